section
theorem k_X0_sameNames_x (d : Nat) {T : CT} {σ : MS} {a t to pl txa txb y txe pxe : Nat} (ha : OB T a 0) (h_t : OB T t 10) (hw : WT T σ) (hto : σ.2.1 0 a = (to : Int)) (hpl : σ.2.1 1 a = (pl : Int)) (htxa : σ.2.1 59 to = (txa : Int)) (htxb : σ.2.1 60 to = (txb : Int)) (hy : σ.2.1 55 to = (y : Int)) (htxe : σ.2.1 63 to = (txe : Int)) (hpxe : σ.2.1 63 pl = (pxe : Int)) : Tn (d + 5) m_X0_sameNames 0 T σ [(0, .ref a), (1, .ref t)] [] (fun ro T2 σ2 => ∃ v : Int, ro = some (.int (iI v)) ∧ T = T2 ∧ WT T2 σ2 ∧ FrC T [2, 3] σ σ2 ∧ (v = 0 ∨ v = 1) ∧ (CHX [(2, a), (3, a)] [] [] σ σ2) ∧ (SN9 T σ to pl txa txb txe pxe y v)) := by
  by_cases h : ∃ c : Nat, SNG9 T σ to txa txb c y
  · obtain ⟨c, hg⟩ := h
    exact Tn.mono (k_X0_sameNames_w d ha h_t hw hto hpl htxa htxb hy htxe hpxe hg) (fun ro T2 σ2 ⟨v, h1, h2, h3, h4, h5, h6, h7⟩ => ⟨v, h1, h2, h3, h4, h5, h6, fun c' g' => by
      have e := hg.one g'
      subst e
      exact h7⟩)
  · exact Tn.mono (k_X0_sameNames_h d ha h_t hw) (fun ro T2 σ2 ⟨v, h1, h2, h3, h4, h5, h6⟩ => ⟨v, h1, h2, h3, h4, h5, h6, fun c' g' => absurd ⟨c', g'⟩ h⟩)

def JSP (σ : MS) (o p : Nat) (v : Int) : Prop := (v = 1 ∧ σ.2.1 65 o = σ.2.1 65 p ∧ σ.2.1 66 o = σ.2.1 66 p) ∨ (v = 0 ∧ ¬ (σ.2.1 65 o = σ.2.1 65 p ∧ σ.2.1 66 o = σ.2.1 66 p))
abbrev jLN (T : CT) (σ : MS) (o xd : Nat) : Int := jA T xd (w32 (w32 (σ.2.1 70 o * 12) + σ.2.1 71 o)) σ
def SSA9 (T : CT) (σ : MS) (a to pl txa txb txc txd txe y pxa pxc pxd pxe yy : Nat) (k b : Int) (σ2 : MS) : Prop := ∃ (σ1 : MS) (u : Int), CHX [(70, to), (71, to)] [] [] σ σ1 ∧ JFN T σ to txa txc y k u σ1 ∧ WT T σ1 ∧ ((u = 0 ∧ b = 0 ∧ σ2 = σ1) ∨ (u = 1 ∧ ∃ u2 : Int, CHX [(70, pl), (71, pl)] [] [] σ1 σ2 ∧ JFN T σ1 pl pxa pxc yy k u2 σ2 ∧ WT T σ2 ∧ ((u2 = 0 ∧ b = 0) ∨ (u2 = 1 ∧ ∃ w1 w2 : Int, JFR T σ2 to txa y 11 (-1) w1 ∧ JFR T σ2 pl pxa yy 11 (-1) w2 ∧ ((b = 1 ∧ w1 = w2 ∧ jLN T σ2 to txd = jLN T σ2 pl pxd) ∨ (b = 0 ∧ ¬ (w1 = w2 ∧ jLN T σ2 to txd = jLN T σ2 pl pxd)))))))
def SSR9 (T : CT) (σ : MS) (a to pl txa txb txc txd txe y pxa pxc pxd pxe yy : Nat) (k s : Int) (w : Int) (σ3 : MS) : Prop := ∃ (b v : Int) (σ2 : MS), SSA9 T σ a to pl txa txb txc txd txe y pxa pxc pxd pxe yy k b σ2 ∧ CHX [(2, a), (3, a)] [] [] σ2 σ3 ∧ SN9 T σ2 to pl txa txb txe pxe y v ∧ (w = 1 ↔ s = 1 ∧ b = 1 ∧ v = 1) ∧ (w = 0 ∨ w = 1)
abbrev SSL9 (a to pl : Nat) : List (Nat × Nat) := [(2, a), (3, a), (70, to), (71, to), (70, pl), (71, pl)]
def SSC9 (T : CT) (σ0 : MS) (a to pl txa txb txc txd txe y pxa pxc pxd pxe yy : Nat) (s0 : Int) : Nat → Int → MS → Prop
  | 0, s, σ => s = s0 ∧ σ = σ0
  | n + 1, s, σ => ∃ (s1 : Int) (σ1 : MS), SSC9 T σ0 a to pl txa txb txc txd txe y pxa pxc pxd pxe yy s0 n s1 σ1 ∧ WT T σ1 ∧ CHX (SSL9 a to pl) [] [] σ0 σ1 ∧ SSR9 T σ1 a to pl txa txb txc txd txe y pxa pxc pxd pxe yy (n : Int) s1 s σ
theorem SSC9.st {T : CT} {σ0 σ σ2 : MS} {a to pl txa txb txc txd txe y pxa pxc pxd pxe yy : Nat} {s0 k s w : Int} (h : SSC9 T σ0 a to pl txa txb txc txd txe y pxa pxc pxd pxe yy s0 k.toNat s σ) (hk : 0 ≤ k) (hw : WT T σ) (hc : CHX (SSL9 a to pl) [] [] σ0 σ) (g : SSR9 T σ a to pl txa txb txc txd txe y pxa pxc pxd pxe yy k s w σ2) : SSC9 T σ0 a to pl txa txb txc txd txe y pxa pxc pxd pxe yy s0 (k + 1).toNat w σ2 := by
  rw [show (k + 1).toNat = k.toNat + 1 by omega]
  exact ⟨s, σ, h, hw, hc, by rw [Int.toNat_of_nonneg hk]; exact g⟩
def SS9 (T : CT) (σ : MS) (a to pl txa txb txc txd txe y pxa pxc pxd pxe yy : Nat) (v : Int) (σ2 : MS) : Prop := ∃ s0 : Int, ((s0 = 1 ∧ σ.2.1 58 to = σ.2.1 58 pl) ∨ (s0 = 0 ∧ σ.2.1 58 to ≠ σ.2.1 58 pl)) ∧ SSC9 T σ a to pl txa txb txc txd txe y pxa pxc pxd pxe yy s0 (σ.2.1 58 to).toNat v σ2
def TLN9 (T : CT) (σ1 : MS) (a to pl txa txb txc txd txe txf y pxa pxb pxc pxd pxe pxf yy : Nat) (e : Int) (σ : MS) : Prop := ∃ (u : Int) (σ2 : MS), CHX (RNL pl) [pxa, pxb, pxc, pxd, pxe, pxf] [] σ1 σ2 ∧ WT T σ2 ∧ JPL9 T σ1 pl pxa pxb pxc pxd pxe pxf yy u σ2 ∧ ((u = 0 ∧ e = 0 ∧ σ = σ2) ∨ (u = 1 ∧ ((JSP σ2 to pl 0 ∧ e = 0 ∧ σ = σ2) ∨ (JSP σ2 to pl 1 ∧ (e = 0 ∨ e = 1) ∧ SS9 T σ2 a to pl txa txb txc txd txe y pxa pxc pxd pxe yy e σ))))
def TGC9 (T : CT) (σ0 : MS) (a to pl txa txb txc txd txe txf y pxa pxb pxc pxd pxe pxf yy : Nat) : Nat → Int → MS → Prop
  | 0, al, σ => al = 0 ∧ σ = σ0
  | n + 1, al, σ => ∃ (al1 : Int) (σ1 σ2 : MS), TGC9 T σ0 a to pl txa txb txc txd txe txf y pxa pxb pxc pxd pxe pxf yy n al1 σ1 ∧ WT T σ1 ∧ σ1.2.1 56 to = 1 ∧ CHX (RNL to) [txa, txb, txc, txd, txe, txf] [] σ1 σ2 ∧ WT T σ2 ∧ ((JST T σ1 to txa txb txc txd txe txf y 0 σ2 ∧ al = al1 ∧ σ = σ2) ∨ (JST T σ1 to txa txb txc txd txe txf y 1 σ2 ∧ al = al1 + 1 ∧ TLN9 T σ2 a to pl txa txb txc txd txe txf y pxa pxb pxc pxd pxe pxf yy 1 σ))
theorem TGC9.st {T : CT} {σ0 σ σ2 σ3 : MS} {a to pl txa txb txc txd txe txf y pxa pxb pxc pxd pxe pxf yy : Nat} {k al w v : Int} (h : TGC9 T σ0 a to pl txa txb txc txd txe txf y pxa pxb pxc pxd pxe pxf yy k.toNat al σ) (hk : 0 ≤ k) (hw : WT T σ) (h1 : σ.2.1 56 to = 1) (hc : CHX (RNL to) [txa, txb, txc, txd, txe, txf] [] σ σ2) (hw2 : WT T σ2) (hj : JST T σ to txa txb txc txd txe txf y v σ2) (g : (v = 0 ∧ w = al ∧ σ3 = σ2) ∨ (v = 1 ∧ w = al + 1 ∧ TLN9 T σ2 a to pl txa txb txc txd txe txf y pxa pxb pxc pxd pxe pxf yy 1 σ3)) : TGC9 T σ0 a to pl txa txb txc txd txe txf y pxa pxb pxc pxd pxe pxf yy (k + 1).toNat w σ3 := by
  rw [show (k + 1).toNat = k.toNat + 1 by omega]
  refine ⟨al, σ, σ2, h, hw, h1, hc, hw2, ?_⟩
  rcases g with ⟨rfl, g2, g3⟩ | ⟨rfl, g2, g3⟩
  · exact Or.inl ⟨hj, g2, g3⟩
  · exact Or.inr ⟨hj, g2, g3⟩
def TEN9 (T : CT) (σ : MS) (a to pl txa txb txc txd txe txf y pxa pxb pxc pxd pxe pxf yy : Nat) (e : Int) : Prop := ∃ (u : Int) (σ2 : MS), CHX (RNL pl) [pxa, pxb, pxc, pxd, pxe, pxf] [] σ σ2 ∧ WT T σ2 ∧ JPL9 T σ pl pxa pxb pxc pxd pxe pxf yy u σ2 ∧ ((e = 1 ∧ u = 0 ∧ σ2.2.1 56 pl = σ2.2.1 56 to ∧ JSP σ2 to pl 1 ∧ σ2.2.1 68 pl = σ2.2.1 68 to) ∨ (e = 0 ∧ (u = 1 ∨ σ2.2.1 56 pl ≠ σ2.2.1 56 to ∨ JSP σ2 to pl 0 ∨ σ2.2.1 68 pl ≠ σ2.2.1 68 to)))
def TG9 (T : CT) (σ0 : MS) (a to pl txa txb txc txd txe txf y pxa pxb pxc pxd pxe pxf yy : Nat) (n v : Int) : Prop := ∃ (i : Nat) (al : Int) (σ : MS), TGC9 T σ0 a to pl txa txb txc txd txe txf y pxa pxb pxc pxd pxe pxf yy i al σ ∧ WT T σ ∧ (0 ≤ al ∧ al ≤ i) ∧ ((i : Int) ≤ n ∨ i = 0) ∧
  (((i : Int) < n ∧ σ.2.1 56 to = 1 ∧ v = -2 - al ∧ ∃ σ1 σ2 : MS, CHX (RNL to) [txa, txb, txc, txd, txe, txf] [] σ σ1 ∧ WT T σ1 ∧ JST T σ to txa txb txc txd txe txf y 1 σ1 ∧ TLN9 T σ1 a to pl txa txb txc txd txe txf y pxa pxb pxc pxd pxe pxf yy 0 σ2) ∨
   (¬ ((i : Int) < n) ∧ σ.2.1 56 to = 1 ∧ v = al) ∨
   (σ.2.1 56 to ≠ 1 ∧ ∃ e : Int, TEN9 T σ a to pl txa txb txc txd txe txf y pxa pxb pxc pxd pxe pxf yy e ∧ ((e = 1 ∧ v = al) ∨ (e = 0 ∧ v = -2 - al))))
end
