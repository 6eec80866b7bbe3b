/-! go: the chains in step -/
def RGG (σ : MS) (a xa xb xc xd xe xf : Nat) (C : Int → Nat) (τ : MS) : Prop := σ.2.1 56 a = 1 ∧ RXC σ a xa xb xc xd xe C τ ∧ RPQ σ a xf τ ∧ σ.2.1 67 a = τ.1 70
def EI7 (w q e : Int) (τ : MS) : Prop := (e = 0 ∨ e = 1) ∧ (e = 0 → q ≤ dpt τ 0) ∧ (e = 1 → w = 2 → dpt τ 0 < q ∧ NZ7 τ)
/-- what of the reference a run goes by -/
def GDX (τ : MS) : Prop := GDA τ ∧ PAR τ ∧ UNA τ ∧ EZA τ
abbrev GWK : List Nat := [73, 75, 76, 77, 78, 79, 80, 81, 82]
theorem GDX.fr {τ τ2 : MS} (h : GDX τ) (f : Fr [68, 69, 70] GWK [] τ τ2) : GDX τ2 := by
  have e : ∀ q, rV τ2 q = rV τ q := fun q => by
    unfold rV rI
    rw [f.2.1 9 (by decide), f.2.1 3 (by decide), f.2.1 4 (by decide), f.2.1 5 (by decide), f.2.1 6 (by decide), f.2.1 7 (by decide), f.2.1 8 (by decide)]
  refine ⟨h.1.fr f (by decide) (by decide), h.2.1.fr f (by decide), fun q a b => ?_, fun q a b => ?_⟩
  · rw [f.1 10 (by decide)] at b; rw [e, f.2.1 9 (by decide)]; exact h.2.2.1 q a b
  · rw [f.1 10 (by decide)] at b; rw [e, f.2.1 9 (by decide)]; exact h.2.2.2 q a b
section LOCK7
variable {T : CT} {a xa xb xc xd xe xf y : Nat} {C : Int → Nat} {w q e u v : Int}
/-- a step writes no number of its own -/
theorem stq_s {τ τ2 : MS} (hs : STQ τ 0 u τ2) : τ2.1 = τ.1 := by
  have h := hs
  unfold STQ STX at h
  rcases h with h | h | h | h | h | h | h | h | h | h | h
  · rw [h.2.2.2]
  · rcases h.2 with ⟨-, -, e⟩ | ⟨-, -, e⟩ <;> rw [e] <;> rfl
  · rw [h.2.2]; rfl
  · rw [h.2.2]; rfl
  · rw [h.2.2]; split <;> rfl
  · obtain ⟨-, -, j, -, e⟩ := h
    rw [e]; rfl
  · rw [h.2.2]; rfl
  · rw [h.2.2]; rfl
  · rw [h.2.2.2]; rfl
  · rw [h.2.2]; rfl
  · obtain ⟨-, -, -, τ1, ec, f2, -⟩ := h
    funext k
    exact (f2.1 k (by simp)).trans (ec.1.1 k (by simp))
theorem stq_x {τ τ2 : MS} (hs : STQ τ 0 u τ2) : STX τ 0 (τ.2.1 73 0 - 1) (220 * τ.2.1 78 (τ.2.1 73 0 - 1) + τ.2.1 79 (τ.2.1 73 0 - 1)) u τ2 := by
  unfold STQ at hs
  rw [b0, show 9 * 0 + τ.2.1 73 0 - 1 = τ.2.1 73 0 - 1 by omega] at hs
  exact hs
/-- one step, with the reference's count -/
theorem step7 {σ σ2 τ τ2 : MS} (rel : RGG σ a xa xb xc xd xe xf C τ) (hw : RWF T σ a xa xb xc xd xe xf y C τ) (gx : GDX τ) (hr : RUN τ 0) (bp : 0 ≤ τ.2.1 76 0 ∧ τ.2.1 76 0 ≤ 1000000000) (bg : 0 ≤ τ.1 70 ∧ τ.1 70 ≤ 1500000000) (hj : JST T σ a xa xb xc xd xe xf y v σ2) (hs : STQ τ 0 u τ2) : SIO σ a xa xb xc xd xe xf C σ2 τ τ2 u v :=
  sim rel.2.1 rel.2.2.1 hw gx.1 gx.2.1 hr gx.2.2.1 rel.1 (by have := rel.2.2.2; omega) bp hj hs
theorem RGG.nx {σ σ2 τ τ2 : MS} (rel : RGG σ a xa xb xc xd xe xf C τ) (h : SIO σ a xa xb xc xd xe xf C σ2 τ τ2 u v) (hu : u = 0 ∨ u = 1) : v = u ∧ RGG σ2 a xa xb xc xd xe xf C (sS 70 (τ.1 70 + 1) τ2) := by
  rcases h with h | h | ⟨-, h2, h3, h4, h5⟩
  · have := h.1; omega
  · have := h.1; omega
  · exact ⟨h2, h3.1, h4.tc ⟨rfl, rfl, rfl, rfl, rfl, rfl, rfl⟩, h5.cg ⟨rfl, rfl, rfl⟩ ⟨rfl, rfl, rfl⟩, by rw [h3.2, rel.2.2.2]; exact rs_eq.symm⟩
theorem EI7.nx {τ τ2 : MS} {e2 : Int} (h : EI7 w q e τ) (gx : GDX τ) (hr : RUN τ 0) (hs : STQ τ 0 u τ2) (hu : u = 0 ∨ u = 1) (he : (e2 = 0 ∨ e2 = 1) ∧ (e2 = 1 ↔ e = 1 ∨ dpt (sS 70 (τ.1 70 + 1) τ2) 0 < q)) (hn : ¬ gST w q u (dpt (sS 70 (τ.1 70 + 1) τ2) 0) e2) : EI7 w q e2 (sS 70 (τ.1 70 + 1) τ2) := by
  have dp := dps_of gx.1 gx.2.2.2 hr rfl rfl rfl (stq_x hs) hu
  have ed : dpt (sS 70 (τ.1 70 + 1) τ2) 0 = dpt τ2 0 := rfl
  rw [ed] at he hn
  obtain ⟨h1, h2, h3⟩ := h
  refine ⟨he.1, fun z => ?_, fun z hw => ?_⟩
  · rw [ed]
    have : ¬ (e = 1 ∨ dpt τ2 0 < q) := fun y => by have := he.2.mpr y; omega
    omega
  · rw [ed]
    show dpt τ2 0 < q ∧ NZ7 τ2
    unfold gST at hn
    have y := he.2.mp z
    rcases dp with ⟨u1, -⟩ | ⟨u0, dp⟩
    · exact absurd ⟨u1, Or.inr (Or.inr ⟨hw, z⟩)⟩ hn
    · by_cases x : e = 1
      · have k := h3 x hw
        rcases dp with ⟨d1, -⟩ | ⟨d1, d2⟩ | ⟨d1, d2⟩
        · exact absurd k.2 d1
        · exact ⟨by omega, d2 k.2⟩
        · exact ⟨by omega, d2⟩
      · have x0 := h2 (by omega)
        have y2 : dpt τ2 0 < q := y.resolve_left x
        rcases dp with ⟨d1, d2⟩ | ⟨d1, d2⟩ | ⟨d1, d2⟩
        · omega
        · omega
        · exact ⟨y2, d2⟩
/-- a LINE: both stop, or none -/
theorem stop7 {σ2 τ τ2 : MS} {e2 d : Int} (h : EI7 w q e τ) (gx : GDX τ) (hr : RUN τ 0) (hs : STQ τ 0 1 τ2) (hw : 0 ≤ w ∧ w ≤ 2) (hd : d = dpt τ2 0) (he : (e2 = 0 ∨ e2 = 1) ∧ (e2 = 1 ↔ e = 1 ∨ dpt τ2 0 < q)) : gST w q 1 (dpt τ2 0) e2 ↔ cST w q d := by
  have dp := dps_of gx.1 gx.2.2.2 hr rfl rfl rfl (stq_x hs) (Or.inr rfl)
  have de : dpt τ2 0 = dpt τ 0 := by
    rcases dp with ⟨-, z⟩ | ⟨z, -⟩
    · exact z
    · omega
  unfold gST cST
  rw [hd]
  obtain ⟨h1, h2, h3⟩ := h
  constructor
  · rintro ⟨-, z | z | ⟨z1, z2⟩⟩
    · exact Or.inl z
    · exact Or.inr (Or.inl z)
    · refine Or.inr (Or.inr ⟨by omega, by omega, ?_⟩)
      rcases he.2.mp z2 with y | y
      · have := h3 y z1; omega
      · exact y
  · rintro (z | z | ⟨z1, z2, z3⟩)
    · exact ⟨rfl, Or.inl z⟩
    · exact ⟨rfl, Or.inr (Or.inl z)⟩
    · exact ⟨rfl, Or.inr (Or.inr ⟨by omega, he.2.mpr (Or.inr z3)⟩)⟩
theorem lock7 {σ σm τ τm : MS} {m : Nat} (rel : RGG σ a xa xb xc xd xe xf C τ) (hw : RWF T σ a xa xb xc xd xe xf y C τ) (gx : GDX τ) (hq : q = dpt τ 0) (hc : JCN T a xa xb xc xd xe xf y w q m σ σm) (hr : RCH w q m τ e τm) : RGG σm a xa xb xc xd xe xf C τm ∧ EI7 w q e τm := by
  induction m generalizing σm τm e with
  | zero =>
    rw [show σm = σ from hc, hr.1]
    refine ⟨rel, Or.inl hr.2, fun _ => by omega, fun z => ?_⟩
    have := hr.2
    omega
  | succ m ih =>
    obtain ⟨σ1, v, c1, c2, c3, c4, c5⟩ := hc
    obtain ⟨e1, τ1, u, τ2, r1, r2, r3, r4, r5, r6, r7⟩ := hr
    obtain ⟨i1, i2⟩ := ih c1 r1
    have w1 := (hw.chx c2).tau r2.2.1 (by decide) (by decide)
    have gx1 := gx.fr r2.2.1
    have s := step7 i1 w1 gx1 r2.1 r2.2.2.1 r2.2.2.2 c4 r3
    have n := i1.nx s r4
    rw [r5] at r6 r7 ⊢
    exact ⟨n.2, i2.nx gx1 r2.1 r3 r4 r6 r7⟩
theorem JCN.cut {σ σm : MS} {m n : Nat} (h : JCN T a xa xb xc xd xe xf y w q m σ σm) (hn : n < m) : ∃ σn σ1 v, JCN T a xa xb xc xd xe xf y w q n σ σn ∧ CHX (RNL a) [xa, xb, xc, xd, xe, xf] [] σ σn ∧ σn.2.1 56 a = 1 ∧ JST T σn a xa xb xc xd xe xf y v σ1 ∧ ¬ (σ1.2.1 56 a = 1 ∧ v = 1 ∧ cST w q (σ1.2.1 58 a)) ∧ (m = n + 1 → σm = σ1) ∧ (n + 1 < m → σ1.2.1 56 a = 1) := by
  induction m generalizing σm with
  | zero => omega
  | succ m ih =>
    obtain ⟨σ1, v, c1, c2, c3, c4, c5⟩ := h
    by_cases z : n = m
    · subst z
      exact ⟨σ1, σm, v, c1, c2, c3, c4, c5, fun _ => rfl, fun y => by omega⟩
    · obtain ⟨σn, σ2, v2, d1, d2, d3, d4, d5, d6, d7⟩ := ih c1 (by omega)
      refine ⟨σn, σ2, v2, d1, d2, d3, d4, d5, fun y => by omega, fun _ => ?_⟩
      by_cases x : m = n + 1
      · rw [← d6 x]; exact c3
      · exact d7 (by omega)
theorem RCH.cut {τ τm : MS} {m n : Nat} (h : RCH w q m τ e τm) (hn : n < m) : ∃ e1 e2 τn u τ2, RCH w q n τ e1 τn ∧ GWY τ τn ∧ STQ τn 0 u τ2 ∧ (u = 0 ∨ u = 1) ∧ ((e2 = 0 ∨ e2 = 1) ∧ (e2 = 1 ↔ e1 = 1 ∨ dpt τ2 0 < q)) ∧ ¬ gST w q u (dpt τ2 0) e2 := by
  induction m generalizing τm e with
  | zero => omega
  | succ m ih =>
    obtain ⟨e1, τ1, u, τ2, r1, r2, r3, r4, r5, r6, r7⟩ := h
    by_cases z : n = m
    · subst z
      rw [r5] at r6 r7
      exact ⟨e1, e, τ1, u, τ2, r1, r2, r3, r4, r6, r7⟩
    · exact ih r1 (by omega)
/-- how the runs stand -/
def L7R (σ : MS) (a xa xb xc xd xe xf : Nat) (C : Int → Nat) (τ : MS) : Prop :=
  (σ.2.1 56 a = 0 ∧ τ.1 67 = 0) ∨ (τ.1 67 ≠ 0 ∧ RPQ σ a xf τ ∧ σ.2.1 67 a = τ.1 70 ∧ ((σ.2.1 56 a = 1 ∧ τ.1 68 = 0 ∧ τ.1 69 = 0 ∧ RXC σ a xa xb xc xd xe C τ) ∨ (σ.2.1 56 a = 3 ∧ τ.1 68 = 0 ∧ τ.1 69 ≠ 0 ∧ RXC σ a xa xb xc xd xe C τ) ∨ (σ.2.1 56 a = 2 ∧ τ.1 68 ≠ 0 ∧ τ.1 69 = 0 ∧ σ.2.1 58 a = 0)))
theorem go7 {σ σ2 τ τ2 : MS} {n v2 : Int} (rel : RGG σ a xa xb xc xd xe xf C τ) (hw : RWF T σ a xa xb xc xd xe xf y C τ) (gx : GDX τ) (st : τ.1 67 ≠ 0 ∧ τ.1 68 = 0 ∧ τ.1 69 = 0) (w0 : 0 ≤ w ∧ w ≤ 2) (n0 : 1 ≤ n) (hj : JAD T σ a xa xb xc xd xe xf y w n v σ2) (hs : GOE w (dpt τ 0) n τ v2 τ2) : v = v2 ∧ L7R σ2 a xa xb xc xd xe xf C τ2 := by
  have h58 := rel.2.1.2.1
  obtain ⟨t1, σt, c1, cx, cf⟩ := hj
  rw [h58] at c1 cf
  obtain ⟨t2, e, τt, r1, rg, rf⟩ := hs
  have tf : ∀ {x : MS}, Fr [68, 69, 70] GWK [] τ x → x.1 67 = τ.1 67 := fun f => f.1 67 (by decide)
  have goi : ∀ {s x : MS}, RGG s a xa xb xc xd xe xf C x → x.1 67 ≠ 0 → x.1 68 = 0 → x.1 69 = 0 → L7R s a xa xb xc xd xe xf C x := fun g h1 h2 h3 => Or.inr ⟨h1, g.2.2.1, g.2.2.2, Or.inl ⟨g.1, h2, h3, g.2.1⟩⟩
  -- 68 and 69 stay along the way
  have way : ∀ (m : Nat) (e : Int) (x : MS), RCH w (dpt τ 0) m τ e x → x.1 68 = 0 ∧ x.1 69 = 0 ∧ x.1 67 ≠ 0 := fun m => by
    induction m with
    | zero => intro e x h; rw [h.1]; exact ⟨st.2.1, st.2.2, st.1⟩
    | succ m ih =>
      intro e x h
      obtain ⟨e1, x1, u, x2, q1, -, q3, -, q5, -⟩ := h
      have i := ih e1 x1 q1
      have k := stq_s q3
      rw [q5]
      refine ⟨?_, ?_, ?_⟩
      · rw [rs_o (by decide) rfl, k]; exact i.1
      · rw [rs_o (by decide) rfl, k]; exact i.2.1
      · rw [rs_o (by decide) rfl, k]; exact i.2.2
  by_cases lt : t1 < t2
  · -- the reference goes on
    exfalso
    obtain ⟨e1, e2, τn, u, τ3, q1, q2, q3, q4, q5, q6⟩ := r1.cut lt
    obtain ⟨i1, i2⟩ := lock7 rel hw gx rfl c1 q1
    have tn : (t2 : Int) ≤ n := by rcases rf with ⟨z, -⟩ | ⟨z, -⟩ <;> omega
    rcases cf with ⟨-, f2, -, u2, f4, f5, f6, f7⟩ | ⟨f1, -⟩
    · have w1 := (hw.chx cx).tau q2.2.1 (by decide) (by decide)
      have gx1 := gx.fr q2.2.1
      have s := step7 i1 w1 gx1 q2.1 q2.2.2.1 q2.2.2.2 f4 q3
      have n2 := i1.nx s q4
      have u1 : u = 1 := by omega
      rw [u1] at q3 q6
      have d2 := n2.2.2.1.2.1
      exact q6 ((stop7 i2 gx1 q2.1 q3 w0 (show σ2.2.1 58 a = dpt τ3 0 from d2) q5).mpr f7)
    · exact f1 ⟨by omega, i1.1⟩
  · by_cases gt : t2 < t1
    · -- the class goes on
      obtain ⟨σn, σ1, vv, d1, d2, d3, d4, d5, d6, d7⟩ := c1.cut gt
      obtain ⟨i1, i2⟩ := lock7 rel hw gx rfl d1 r1
      have w1 := (hw.chx d2).tau rg.2.1 (by decide) (by decide)
      have gx1 := gx.fr rg.2.1
      have wy := way t2 e τt r1
      have t1n : (t1 : Int) ≤ n := by
        rcases cf with ⟨f1, -⟩ | ⟨-, f2, -⟩
        · omega
        · rcases f2 with z | z <;> omega
      rcases rf with ⟨z, -⟩ | ⟨z, k, τ3, q3, qf⟩
      · omega
      · have s := step7 i1 w1 gx1 rg.1 rg.2.2.1 rg.2.2.2 d4 q3
        rcases qf with ⟨k1, k2, k3⟩ | ⟨k1, k2, k3⟩ | ⟨k1, k2, e2, k3, k4⟩
        · -- fails
          rcases s with ⟨-, -, s3, s4⟩ | s | s
          · have o56 : σ1.2.1 56 a = 3 := by rw [s4]; exact ra_eq
            have et : t1 = t2 + 1 := by
              by_cases y : t2 + 1 < t1
              · have := d7 y; omega
              · omega
            have eσ := d6 et
            rw [← eσ] at o56
            rcases cf with ⟨-, f2, -⟩ | ⟨-, -, f3, f4⟩
            · omega
            · refine ⟨by omega, ?_⟩
              rw [f3, eσ, s4, k3, s3]
              refine Or.inr ⟨?_, i1.2.2.1.cg ⟨by rw [sA_k (by decide)], by rw [sA_k (by decide)], sA_k (by omega)⟩ ⟨rfl, rfl, rfl⟩, ?_, Or.inr (Or.inl ⟨ra_eq, ?_, ?_, (i1.2.1.fld (by decide)).tc ⟨rfl, rfl, rfl, rfl, rfl, rfl, rfl⟩⟩)⟩
              · rw [rs_o (by decide) rfl]; exact wy.2.2
              · rw [sA_k (by decide), rs_o (by decide) rfl]; exact i1.2.2.2
              · rw [rs_o (by decide) rfl]; exact wy.1
              · rw [rs_eq]; decide
          · have := s.1; omega
          · have := s.1; omega
        · -- over
          rcases s with s | ⟨-, -, s3, s4⟩ | s
          · have := s.1; omega
          · have et : t1 = t2 + 1 := by
              by_cases y : t2 + 1 < t1
              · have := d7 y; omega
              · omega
            have eσ := d6 et
            rw [← eσ] at s3 s4
            rcases cf with ⟨-, f2, -⟩ | ⟨-, -, f3, f4⟩
            · omega
            · have kq := stq_s q3
              refine ⟨by omega, ?_⟩
              rw [f3, k3]
              refine Or.inr ⟨?_, s4.cg ⟨rfl, rfl, rfl⟩ ⟨rfl, rfl, rfl⟩, ?_, Or.inr (Or.inr ⟨s3.1, ?_, ?_, s3.2.1⟩)⟩
              · rw [rs_o (by decide) (rs_o (by decide) rfl), kq]; exact wy.2.2
              · rw [s3.2.2, rs_o (by decide) rfl, rs_eq]
                have := i1.2.2.2
                rw [this]
              · rw [rs_eq]; decide
              · rw [rs_o (by decide) (rs_o (by decide) rfl), kq]; exact wy.2.1
          · have := s.1; omega
        · -- a LINE at which it stops: so does the class
          exfalso
          have kk : k = 1 := k4.1
          subst kk
          have n2 := i1.nx s (Or.inr rfl)
          rw [k2] at k3 k4
          have sp := (stop7 i2 gx1 rg.1 q3 w0 (show σ1.2.1 58 a = dpt τ3 0 from n2.2.2.1.2.1) k3).mp k4
          exact d5 ⟨n2.2.1, n2.1, sp⟩
    · -- in step to the end
      have et : t1 = t2 := by omega
      subst et
      obtain ⟨i1, i2⟩ := lock7 rel hw gx rfl c1 r1
      have wy := way t1 e τt r1
      rcases cf with ⟨f1, -, f3, u2, f4, f5, f6, f7⟩ | ⟨f1, f2, f3, f4⟩
      · rcases rf with ⟨z, -⟩ | ⟨-, k, τ3, q3, qf⟩
        · omega
        · have w1 := (hw.chx cx).tau rg.2.1 (by decide) (by decide)
          have gx1 := gx.fr rg.2.1
          have s := step7 i1 w1 gx1 rg.1 rg.2.2.1 rg.2.2.2 f4 q3
          have k1 : k = 1 := by
            rcases s with ⟨-, s2, -, s4⟩ | ⟨-, s2, -⟩ | ⟨-, s2, -⟩
            · omega
            · omega
            · omega
          subst k1
          have n2 := i1.nx s (Or.inr rfl)
          rcases qf with ⟨k1, -⟩ | ⟨k1, -⟩ | ⟨k1, k2, -⟩
          · omega
          · omega
          · rw [k2]
            have kq := stq_s q3
            refine ⟨by omega, goi n2.2 ?_ ?_ ?_⟩
            · rw [rs_o (by decide) rfl, kq]; exact wy.2.2
            · rw [rs_o (by decide) rfl, kq]; exact wy.1
            · rw [rs_o (by decide) rfl, kq]; exact wy.2.1
      · have h56 := i1.1
        rcases rf with ⟨z, k1, k2⟩ | ⟨z, -⟩
        · rw [f3, k2]
          exact ⟨by omega, goi i1 wy.2.2 wy.1 wy.2.1⟩
        · exact absurd ⟨z, h56⟩ f1
end LOCK7

