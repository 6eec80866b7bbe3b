section
def FG9 (σ : MS) (a : Nat) (i : Int) : Prop := ∀ q, 0 ≤ q → q < i → σ.2.1 (1000 + adN σ 89 (adN σ 102 a)) q ≠ 0
section FG9S
variable {S : Nat → Prop} {T T2 : CT} {σ σ2 : MS} {a tl c xb xs xf : Nat} {i : Int}
theorem FG9.z : FG9 σ a 0 := fun q a b => by omega
theorem FG9.rf (h : FG9 σ a i) (e : σ.2.1 102 a = (tl : Int)) (e2 : σ.2.1 89 tl = (xf : Int)) (g : QFR S T σ σ2) (r : RFT T T2 σ σ2 tl c i xs xb xf) (nz : σ2.2.1 (1000 + adN σ2 89 tl) i ≠ 0) : FG9 σ2 a (i + 1) := fun q q0 q1 => by
  have et : adN σ 102 a = tl := adN_of e
  have ef : adN σ 89 tl = xf := adN_of e2
  have et2 : adN σ2 102 a = tl := by rw [g.ad (by decide) (by unfold QF; omega)]; exact et
  have ef2 : adN σ2 89 tl = xf := by rw [g.ad (by decide) (by unfold QF; omega)]; exact ef
  rw [et2]
  by_cases z : q = i
  · rw [z]; exact nz
  · have w := h q q0 (by omega)
    rw [et, ef] at w
    rw [ef2]
    rcases r with ⟨-, e3, -⟩ | ⟨-, t, -, -, -, e3, -⟩
    · rw [e3]; exact w
    · rw [e3, uZ_ne z]; exact w
end FG9S
def BSU9 (S : Nat → Prop) (T0 T : CT) (σ0 : MS) (a : Nat) (C : Int → Nat) (Cn r p q s t n v : Int) : Prop := ∃ σ : MS, QFR S T0 σ0 σ ∧ WT T σ ∧ BSQ S T σ a ∧ TGK S T σ a C Cn ∧ (∀ q9, 0 ≤ q9 → q9 < Cn → σ.2.1 (1000 + adN σ 89 (adN σ 102 a)) q9 ≠ 0) ∧ ∃ (p9 to pl txa txb txc txd txe txf y pxa pxb pxc pxd pxe pxf yy : Nat) (σ2 σ3 : MS), (σ.2.1 110 a = (p9 : Int) ∧ σ.2.1 0 p9 = (to : Int) ∧ σ.2.1 1 p9 = (pl : Int)) ∧ (σ.2.1 59 to = (txa : Int) ∧ σ.2.1 60 to = (txb : Int) ∧ σ.2.1 61 to = (txc : Int) ∧ σ.2.1 62 to = (txd : Int) ∧ σ.2.1 63 to = (txe : Int) ∧ σ.2.1 64 to = (txf : Int) ∧ σ.2.1 55 to = (y : Int)) ∧ (σ.2.1 59 pl = (pxa : Int) ∧ σ.2.1 60 pl = (pxb : Int) ∧ σ.2.1 61 pl = (pxc : Int) ∧ σ.2.1 62 pl = (pxd : Int) ∧ σ.2.1 63 pl = (pxe : Int) ∧ σ.2.1 64 pl = (pxf : Int) ∧ σ.2.1 55 pl = (yy : Int)) ∧ (CHX (RNL to) [txa, txb, txc, txd, txe, txf] [] σ σ2 ∧ JBG T σ to txa txb txc txd txe y r p q s t σ2) ∧ (CHX (RNL pl) [pxa, pxb, pxc, pxd, pxe, pxf] [] σ2 σ3 ∧ JBG T σ2 pl pxa pxb pxc pxd pxe yy r p q s t σ3) ∧ ∃ B0 : MS, CHX [(2, p9), (3, p9), (4, p9)] [] [] σ3 B0 ∧ WT T B0 ∧ TG9 T B0 p9 to pl txa txb txc txd txe txf y pxa pxb pxc pxd pxe pxf yy n v
end
