/-! CALL and RETURN of both runs -/
def PWC (xe : Nat) (H W : Int → Int) (B : Int) (s : MS) (n : Int) (s2 : MS) : Prop := (∀ j, s2.2.1 (1000 + xe) j = if B ≤ j ∧ j < B + 192 then pwR H W n.toNat (fun g => s.2.1 (1000 + xe) (B + g)) (j - B) else s.2.1 (1000 + xe) j) ∧ CHX [] [xe] [] s s2
theorem PWC.z {xe : Nat} {H W : Int → Int} {B : Int} {s : MS} : PWC xe H W B s 0 s := by
  refine ⟨fun j => ?_, CHX.rfl⟩
  by_cases y : B ≤ j ∧ j < B + 192
  · rw [if_pos y]
    show s.2.1 (1000 + xe) j = s.2.1 (1000 + xe) (B + (j - B))
    rw [show B + (j - B) = j by omega]
  · rw [if_neg y]
theorem PWC.put {xe : Nat} {H W : Int → Int} {B n i w : Int} {s s2 : MS} (h : PWC xe H W B s n s2) (n0 : 0 ≤ n) (hr : 0 ≤ H n ∧ H n < 192) (hi : i = B + H n) (hw : w = W n) : PWC xe H W B s (n + 1) (sA (1000 + xe) i w s2) := by
  refine ⟨fun j => ?_, h.2.arr (by simp)⟩
  have e : (n + 1).toNat = n.toNat + 1 := by omega
  have e2 : ((n.toNat : Nat) : Int) = n := by omega
  rw [e]
  have un : pwR H W (n.toNat + 1) (fun g => s.2.1 (1000 + xe) (B + g)) = uZ (pwR H W n.toNat (fun g => s.2.1 (1000 + xe) (B + g))) (H n) (W n) := by
    show uZ (pwR H W n.toNat (fun g => s.2.1 (1000 + xe) (B + g))) (H ((n.toNat : Nat) : Int)) (W ((n.toNat : Nat) : Int)) = _
    rw [e2]
  rw [un]
  by_cases z : j = i
  · rw [z, ra_eq, if_pos (by omega), show i - B = H n by omega, uZ_eq]
    exact hw
  · rw [ra_ne z rfl, h.1 j]
    by_cases y : B ≤ j ∧ j < B + 192
    · rw [if_pos y, if_pos y, uZ_ne (by omega)]
    · rw [if_neg y, if_neg y]
section CALL7
variable {T : CT} {σ σ2 τ τ2 : MS} {a xa xb xc xd xe xf y : Nat} {C : Int → Nat} {t r p q v w g c i h : Int}
/-- names' homes in frame 0 -/
theorem home7 (hc : RCX T σ τ a xa xb xc xd xe xf (C q) q) (gd : GDR τ q) (i0 : 0 ≤ i) (i1 : i < τ.2.1 11 q) : rwF σ 15 (C q) i = τ.2.1 18 (144 * q + i) ∧ 0 ≤ τ.2.1 18 (144 * q + i) ∧ τ.2.1 18 (144 * q + i) < 192 := by
  have f1 : 1 ≤ τ.2.1 14 q := gd.2.1.1.1
  have f0 := gd.2.2.2.1
  unfold FR0 at f0
  have pn := gd.2.2.2.2.2.2.2.2
  have e := hc.2.1.1
  have eF : σ.2.1 10 (C q) = τ.2.1 14 q := congrArg RTS.F e
  have eo := congrFun (congrArg RTS.fo e) 0
  have eo : (if 0 ≤ (0 : Int) ∧ (0 : Int) < σ.2.1 10 (C q) then rwF σ 11 (C q) 0 else 0) = (if 0 ≤ (0 : Int) ∧ (0 : Int) < τ.2.1 14 q then τ.2.1 15 (12 * q + 0) else 0) := eo
  rw [if_pos ⟨by decide, by omega⟩, if_pos ⟨by decide, by omega⟩] at eo
  have rn := (hc.2.2.1.2.2 0 (by decide) (by omega)).2
  rw [eo, f0] at rn
  have en := congrFun (congrFun (congrArg RTS.na e) 0) i
  have en : (if (0 ≤ (0 : Int) ∧ (0 : Int) < σ.2.1 10 (C q)) ∧ 0 ≤ i ∧ i < rwF σ 14 (C q) 0 then rwF σ 15 (C q) (12 * 0 + i) else 0) = (if (0 ≤ (0 : Int) ∧ (0 : Int) < τ.2.1 14 q) ∧ 0 ≤ i ∧ i < τ.2.1 12 (τ.2.1 15 (12 * q + 0)) then τ.2.1 18 (144 * q + 12 * 0 + i) else 0) := en
  rw [f0, if_pos ⟨⟨by decide, by omega⟩, i0, by omega⟩, if_pos ⟨⟨by decide, by omega⟩, i0, by omega⟩, show 12 * 0 + i = i by omega, show 144 * q + 12 * 0 + i = 144 * q + i by omega] at en
  have ok := (gd.2.1.2 0 (by decide) (by omega)).2 i i0 (by rw [f0]; omega)
  rw [show 144 * q + 12 * 0 + i = 144 * q + i by omega] at ok
  exact ⟨en, ok⟩
theorem JHP.of (hc : RCX T σ τ a xa xb xc xd xe xf (C q) q) (gd : GDR τ q) (e69 : σ.2.1 69 a = (C q : Int)) (e57 : σ.2.1 57 a = c) (c0 : 0 ≤ c ∧ c ≤ 8) (i0 : 0 ≤ i ∧ i < 4) (hj : JHP T σ a i h) : (τ.2.1 11 q ≤ i ∧ h = -1) ∨ (i < τ.2.1 11 q ∧ h = c * 192 + τ.2.1 18 (144 * q + i) ∧ 0 ≤ τ.2.1 18 (144 * q + i) ∧ τ.2.1 18 (144 * q + i) < 192) := by
  have e8 := hc.2.1.2
  rcases hj with ⟨e, n | ⟨cc, e1, e2⟩⟩ | ⟨cc, xh, e1, e2, e3, e4⟩
  · omega
  · have ecc : cc = C q := by omega
    subst ecc
    exact Or.inl ⟨by omega, e⟩
  · have ecc : cc = C q := by omega
    subst ecc
    have k := home7 hc gd i0.1 (by omega)
    have ex : xh = adN σ 15 (C q) := (adN_of e3).symm
    subst ex
    have l := hc.2.2.2.2.1.2.2
    rw [jA_in (by omega), show 0 * 12 + i = i by omega] at e4
    have k1 : σ.2.1 (1000 + adN σ 15 (C q)) i = τ.2.1 18 (144 * q + i) := k.1
    rw [k1, e57, w32_id (by omega)] at e4
    exact Or.inr ⟨by omega, e4, k.2⟩
/-- one home -/
theorem pw_step {H W : Int → Int} {B P u : Int} {s s1 : MS} (hp : PWC xe H W B s (if i < P then i else P) s1) (l : (T xe).2 = 1728) (hB : 0 ≤ B ∧ B + 192 ≤ 1728) (i0 : 0 ≤ i) (hh : (P ≤ i ∧ h = -1) ∨ (i < P ∧ h = B + H i ∧ 0 ≤ H i ∧ H i < 192)) (hu : u = W i) : PWC xe H W B s (if i + 1 < P then i + 1 else P) (jP T xe h u s1) := by
  rcases hh with ⟨a1, a2⟩ | ⟨a1, a2, a3, a4⟩
  · rw [jP_out (by omega), if_neg (by omega)]
    rw [if_neg (by omega)] at hp
    exact hp
  · rw [if_pos a1] at hp
    rw [jP_in (by omega)]
    have z := hp.put i0 ⟨a3, a4⟩ a2 hu
    by_cases e : i + 1 < P
    · rw [if_pos e]; exact z
    · rw [if_neg e, show P = i + 1 by omega]; exact z
end CALL7

