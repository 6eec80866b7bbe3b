section
abbrev CK9 : List Nat := [3, 4, 5, 6, 7, 8, 9, 11, 12, 14, 15, 16, 17, 18]
abbrev FOK : List Nat := [46, 47, 48, 49, 50, 51, 52, 53, 54, 55, 56, 57, 58, 86]
section FRG9
variable {τ τ2 : MS} {ss ks js : List Nat} {m u : Int}
theorem rv_frg (f : Fr ss ks js τ τ2) (hk : ∀ k ∈ CK9, k ∉ ks) (q : Int) : rV τ2 q = rV τ q := by
  unfold rV rI
  rw [f.2.1 9 (hk 9 (by decide)), f.2.1 3 (hk 3 (by decide)), f.2.1 4 (hk 4 (by decide)), f.2.1 5 (hk 5 (by decide)), f.2.1 6 (hk 6 (by decide)), f.2.1 7 (hk 7 (by decide)), f.2.1 8 (hk 8 (by decide))]
theorem rs_frg (f : Fr ss ks js τ τ2) (hk : ∀ k ∈ CK9, k ∉ ks) (q : Int) : rS τ2 q = rS τ q := by
  unfold rS
  rw [rv_frg f hk, f.2.1 9 (hk 9 (by decide)), f.2.1 12 (hk 12 (by decide)), f.2.1 14 (hk 14 (by decide)), f.2.1 15 (hk 15 (by decide)), f.2.1 16 (hk 16 (by decide)), f.2.1 17 (hk 17 (by decide)), f.2.1 18 (hk 18 (by decide))]
theorem gdx_frg (h : GDX τ) (f : Fr ss ks js τ τ2) (hs : 10 ∉ ss) (hk : ∀ k ∈ CK9, k ∉ ks) : GDX τ2 := by
  have sub : ∀ l : List Nat, (∀ k ∈ l, k ∈ CK9) → ∀ k ∈ l, k ∉ ks := fun l hl k q => hk k (hl k q)
  refine ⟨h.1.fr f hs (sub _ (by decide)), h.2.1.fr f (hk 11 (by decide)), fun q a b => ?_, fun q a b => ?_⟩
  · rw [f.1 10 hs] at b; rw [rv_frg f hk, f.2.1 9 (hk 9 (by decide))]; exact h.2.2.1 q a b
  · rw [f.1 10 hs] at b; rw [rv_frg f hk, f.2.1 9 (hk 9 (by decide))]; exact h.2.2.2 q a b
theorem cdw_frg (h : CDW τ) (f : Fr ss ks js τ τ2) (hs : 10 ∉ ss) (hk : ∀ k ∈ CK9, k ∉ ks) : CDW τ2 := h.same (fun j _ _ => rs_frg f hk j) (f.1 10 hs) (f.2.1 11 (hk 11 (by decide))) (f.2.1 12 (hk 12 (by decide)))
theorem bk2_1 : bk2 1 τ = τ := if_neg (by decide)
theorem bk2_2 : bk2 2 τ = vb τ := if_pos rfl
theorem run_line (hr : RUN τ m) (hs : STQ τ m 1 τ2) : RUN τ2 m := by
  obtain ⟨t, et⟩ : ∃ t, t = 9 * m + τ.2.1 73 m - 1 := ⟨_, rfl⟩
  have h73 := hr.1
  have pl := hr.2.1 t (by omega) (by omega)
  unfold STQ at hs
  rw [← et] at hs
  obtain ⟨x, ex⟩ : ∃ x, x = 220 * (bkm m + τ.2.1 78 t) + τ.2.1 79 t := ⟨_, rfl⟩
  rw [← ex] at hs
  have key : τ.2.1 3 x = 11 ∧ τ2 = sA 79 t (τ.2.1 79 t + 1) (sA 81 (12 * t + τ.2.1 5 x) (τ.2.1 4 x) τ) := by
    rcases hs with hs | hs | hs | hs | hs | hs | hs | hs | hs | hs | hs
    · exact absurd hs.1 (by decide)
    · rcases hs.2 with ⟨e, -⟩ | ⟨e, -⟩ <;> exact absurd e (by decide)
    · exact absurd hs.2.1 (by decide)
    · exact absurd hs.2.1 (by decide)
    · exact absurd hs.2.1 (by decide)
    · exact absurd hs.2.1 (by decide)
    · exact absurd hs.2.1 (by decide)
    · exact ⟨hs.1, hs.2.2⟩
    · exact absurd hs.2.1 (by decide)
    · exact absurd hs.2.1 (by decide)
    · exact absurd hs.2.1 (by decide)
  obtain ⟨k11, e⟩ := key
  have kd : kdm τ m (τ.2.1 78 t) (τ.2.1 79 t) = 11 := by unfold kdm; rw [← ex]; exact k11
  have q79 : τ2.2.1 79 t = τ.2.1 79 t + 1 := by rw [e]; exact ra_eq
  have q80 : τ2.2.1 80 = τ.2.1 80 := by rw [e, sA_k (by decide), sA_k (by decide)]
  refine hr.top et (ss := []) (ks := [79, 81]) (js := []) (by rw [e]; exact (Fr.rfl.A (by decide)).A (by decide)) (by decide) (by decide) (by rw [e, sA_k (by decide), sA_k (by decide)]) (fun c _ _ => by rw [e, sA_k (by decide), sA_k (by decide)]) (fun c _ c1 => ⟨?_, by rw [q80]⟩) ?_ ?_
  · rw [e]; exact (ra_ne (by omega) rfl).trans (by rw [sA_k (by decide)])
  · rw [q79, q80]; exact pl.nx (by omega) (by omega) (by omega) (by omega)
  · rw [q80]; have := hr.2.2.2; omega
def RST9 (τ : MS) (u : Int) (τ2 : MS) : Prop := RUN τ 1 ∧ (0 ≤ τ.2.1 76 1 ∧ τ.2.1 76 1 ≤ 1000000000) ∧ STQ τ 1 u τ2
def RLN9 (τ : MS) (v : Int) (τ2 : MS) : Prop := ∃ n : Nat, NXT9 2 τ n v τ2 ∧ (n : Int) ≤ rk τ
theorem nxt_run {n : Nat} {v : Int} (h : NXT9 m τ n v τ2) : RUN τ m := by
  obtain ⟨τ1, s, w, -⟩ := h
  cases n with
  | zero =>
    have e : τ1 = τ := s
    rw [e] at w; exact w.1
  | succ n =>
    obtain ⟨τj, τ', e, w', -⟩ := s.pre (j := 0) (by omega)
    have e : τj = τ := e
    rw [e] at w'; exact w'.1
theorem nxt_end {n : Nat} (h : NXT9 m τ n 1 τ2) : RUN τ2 m := by
  obtain ⟨τ1, -, w, s, -⟩ := h
  exact run_line w.1 s
theorem paq_of {P : List Int} (h1 : PRT8 τ 1 P) (h2 : PRT8 τ 2 P) : PAQ τ 1 := Or.inl ⟨rfl, h1.1.trans h2.1.symm, fun i i0 i1 i2 => by
  have e1 := h1.1
  have a := h1.2 i.toNat (by omega) (by omega)
  have b := h2.2 i.toNat (by omega) (by omega)
  rw [show (200 : Int) * 1 + (i.toNat : Int) = 200 + i by omega] at a
  rw [show (200 : Int) * 2 + (i.toNat : Int) = 400 + i by omega] at b
  exact a.trans b.symm⟩
theorem paq_no (h : PAQ τ 1) : ¬ PAQ τ 0 := fun z => by
  rcases h with ⟨-, e, f⟩ | ⟨e, -⟩
  · rcases z with ⟨e0, -⟩ | ⟨-, z⟩
    · exact absurd e0 (by decide)
    · rcases z with z | ⟨i, ⟨i0, i1, i2⟩, z⟩
      · exact z e
      · exact z (f i i0 i1 i2)
  · exact absurd e (by decide)
end FRG9
section LK9S
variable {T : CT} {σ σ1 σ2 σ3 σ4 τ τ2 τ3 τ4 : MS} {to pl yy txa txb txc txd txe txf pxa pxb pxc pxd pxe pxf y a : Nat} {C M : Int → Nat} {m u v w e g b x pv iz k al : Int} {W : Int → Int} {L L1 L2 : List E8}
abbrev XS9 (txa txb txc txd txe txf pxa pxb pxc pxd pxe pxf : Nat) : List Nat := [txa, txb, txc, txd, txe, txf, pxa, pxb, pxc, pxd, pxe, pxf]
def LSP (σ : MS) (to txa txb txc txd txe txf y pl pxa pxb pxc pxd pxe pxf yy : Nat) (C M : Int → Nat) (τ : MS) : Prop := (∀ q, 0 ≤ q → q < τ.1 10 → (∀ f, f ∈ AF6 → adN σ f (C q) ∉ XS9 txa txb txc txd txe txf pxa pxb pxc pxd pxe pxf ∧ adN σ f (M q) ∉ XS9 txa txb txc txd txe txf pxa pxb pxc pxd pxe pxf) ∧ ∀ t : Nat, σ.2.1 900 q = (t : Int) → t ∉ XS9 txa txb txc txd txe txf pxa pxb pxc pxd pxe pxf) ∧ (y ∉ XS9 txa txb txc txd txe txf pxa pxb pxc pxd pxe pxf ∧ yy ∉ XS9 txa txb txc txd txe txf pxa pxb pxc pxd pxe pxf) ∧ ∀ z, z ∈ [txa, txb, txc, txd, txe, txf] → z ∉ [pxa, pxb, pxc, pxd, pxe, pxf]
def LBO9 (T : CT) (σ : MS) (to txa txb txc txd txe txf y pl pxa pxb pxc pxd pxe pxf yy : Nat) (C M : Int → Nat) (τ : MS) : Prop := to ≠ pl ∧ RWF T σ to txa txb txc txd txe txf y C τ ∧ RWF T σ pl pxa pxb pxc pxd pxe pxf yy M (vb τ) ∧ (GDX τ ∧ GDX (vb τ)) ∧ (BKA τ 1 ∧ BKA τ 2) ∧ (KPA τ ∧ BEA τ) ∧ CDW τ ∧ TL9 T σ C τ ∧ (∀ q, 0 ≤ q → q < τ.1 10 → (T (adN σ 11 (M q))).2 = 12) ∧ LSP σ to txa txb txc txd txe txf y pl pxa pxb pxc pxd pxe pxf yy C M τ
theorem LBO9.chx {l : List (Nat × Nat)} {xs : List Nat} (h : LBO9 T σ to txa txb txc txd txe txf y pl pxa pxb pxc pxd pxe pxf yy C M τ) (c : CHX l xs [] σ σ2) (hl : ∀ p, p ∈ l → p.1 = 2 ∨ p.1 = 3 ∨ p.1 = 4 ∨ (56 ≤ p.1 ∧ p.1 ≤ 71)) (hx : ∀ x, x ∈ xs → x ∈ XS9 txa txb txc txd txe txf pxa pxb pxc pxd pxe pxf) : LBO9 T σ2 to txa txb txc txd txe txf y pl pxa pxb pxc pxd pxe pxf yy C M τ := by
  obtain ⟨h1, h2, h3, h4, h5, h6, h7, h8, h9, sp, ⟨yn, yyn⟩, ap⟩ := h
  have fe : ∀ (k : Nat) (i : Int), ((5 ≤ k ∧ k ≤ 16) ∨ k = 900) → σ2.2.1 k i = σ.2.1 k i := fun k i hk => c.1 k i (by omega) (fun p hp e => by have := hl p hp; omega)
  have ro : ∀ x, x ∉ XS9 txa txb txc txd txe txf pxa pxb pxc pxd pxe pxf → σ2.2.1 (1000 + x) = σ.2.1 (1000 + x) := fun x hn => c.2.1 x (fun z => hn (hx x z))
  have csC : ∀ q, 0 ≤ q → q < τ.1 10 → CSM σ σ2 (C q) := fun q a b => ⟨fun f f0 f1 => fe f _ (by omega), fun f hf => ro _ ((sp q a b).1 f hf).1⟩
  have csM : ∀ q, 0 ≤ q → q < τ.1 10 → CSM σ σ2 (M q) := fun q a b => ⟨fun f f0 f1 => fe f _ (by omega), fun f hf => ro _ ((sp q a b).1 f hf).2⟩
  have v10 : (vb τ).1 10 = τ.1 10 := rfl
  refine ⟨h1, h2.csm csC (ro _ yn), h3.csm (fun q a b => csM q a b) (ro _ yyn), h4, h5, h6, h7, fun q a b => ?_, fun q a b => by rw [(csM q a b).ad (by decide) (by decide)]; exact h9 q a b, fun q a b => ⟨fun f hf => ?_, fun t e => (sp q a b).2 t (by rw [← fe 900 q (by omega)]; exact e)⟩, ⟨yn, yyn⟩, ap⟩
  · obtain ⟨⟨t, t1, t2, t3⟩, k2, k3, k4, k5⟩ := h8 q a b
    have cs := csC q a b
    refine ⟨⟨t, (fe 900 q (by omega)).trans t1, by rw [ro t ((sp q a b).2 t t1)]; exact tkc_m cs t2, ?_⟩, rtc_m cs k2, by rw [cs.ad (by decide) (by decide)]; exact k3, by rw [cs.ad (by decide) (by decide)]; exact k4, (cs.1 7 (by decide) (by decide)).trans k5⟩
    rw [cs.1 6 (by decide) (by decide), cs.1 10 (by decide) (by decide), cs.rw (f := 14) (by decide) (by decide) (by decide)]
    exact t3
  · have z := (by decide : ∀ f ∈ AF6, 5 ≤ f ∧ f ≤ 16) f hf
    rw [(csC q a b).ad z.1 z.2, (csM q a b).ad z.1 z.2]
    exact (sp q a b).1 f hf
theorem LBO9.fr {ss ks js : List Nat} (h : LBO9 T σ to txa txb txc txd txe txf y pl pxa pxb pxc pxd pxe pxf yy C M τ) (f : Fr ss ks js τ τ2) (hs : 10 ∉ ss) (hk : ∀ k ∈ CK9, k ∉ ks) : LBO9 T σ to txa txb txc txd txe txf y pl pxa pxb pxc pxd pxe pxf yy C M τ2 := by
  obtain ⟨h1, h2, h3, h4, h5, h6, h7, h8, h9, sp, h10⟩ := h
  have sub : ∀ l : List Nat, (∀ k ∈ l, k ∈ CK9) → ∀ k ∈ l, k ∉ ks := fun l hl k q => hk k (hl k q)
  have e10 := f.1 10 hs
  refine ⟨h1, h2.tau f hs hk, h3.tau (vb_frt f) hs hk, ⟨gdx_frg h4.1 f hs hk, gdx_frg h4.2 (vb_frt f) hs hk⟩, ⟨h5.1.fr f hs (sub _ (by decide)), h5.2.fr f hs (sub _ (by decide))⟩, h6.1.fr h6.2 f hs hk, cdw_frg h7 f hs hk, fun q a b => ?_, fun q a b => h9 q a (by rw [← e10]; exact b), fun q a b => sp q a (by rw [← e10]; exact b), h10⟩
  have z := h8 q a (by rw [← e10]; exact b)
  exact ⟨z.1, z.2.1, z.2.2.1, z.2.2.2.1, by rw [f.2.1 12 (hk 12 (by decide))]; exact z.2.2.2.2⟩
theorem LBO9.en1 (h : LBO9 T σ to txa txb txc txd txe txf y pl pxa pxb pxc pxd pxe pxf yy C M τ) : EN9 τ 1 := ⟨h.2.2.2.2.1.1, h.2.2.2.1.1.2.1, fun _ => h.2.2.2.1.1.1⟩
theorem LBO9.en2 (h : LBO9 T σ to txa txb txc txd txe txf y pl pxa pxb pxc pxd pxe pxf yy C M τ) : EN9 τ 2 := ⟨h.2.2.2.2.1.2, h.2.2.2.1.1.2.1, fun z => absurd rfl z⟩
theorem rnl_no (tp : to ≠ pl) : ∀ f, (56 ≤ f ∧ f ≤ 69) → (f, pl) ∉ RNL to := fun f _ => by
  have tq : pl ≠ to := fun z => tp z.symm
  simp [tq]
theorem rnl_f {p : Nat × Nat} (h : p ∈ RNL to) : p.1 = 2 ∨ p.1 = 3 ∨ p.1 = 4 ∨ (56 ≤ p.1 ∧ p.1 ≤ 71) := by
  simp only [List.mem_cons, List.not_mem_nil, or_false] at h
  rcases h with rfl | rfl | rfl | rfl | rfl | rfl | rfl | rfl | rfl | rfl <;> simp
theorem LBO9.ap (h : LBO9 T σ to txa txb txc txd txe txf y pl pxa pxb pxc pxd pxe pxf yy C M τ) : ∀ z, z ∈ [txa, txb, txc, txd, txe, txf] → z ∉ [pxa, pxb, pxc, pxd, pxe, pxf] := h.2.2.2.2.2.2.2.2.2.2.2
theorem SDE.z73 {o xa xb xc xd xe xf : Nat} (S : SDE σ o xa xb xc xd xe xf C m τ x W L) : 0 ≤ τ.2.1 73 m ∧ τ.2.1 73 m ≤ 9 := by
  have z := S.1.2.1.1.1
  rw [vw_73] at z
  omega
def LK9 (T : CT) (σ : MS) (to txa txb txc txd txe txf y pl pxa pxb pxc pxd pxe pxf yy : Nat) (C M : Int → Nat) (τ : MS) (x : Int) (W : Int → Int) (L1 L2 : List E8) (b : Int) : Prop := SDE σ to txa txb txc txd txe txf C 1 τ x W L1 ∧ SDE σ pl pxa pxb pxc pxd pxe pxf M 2 τ x W L2 ∧ LBO9 T σ to txa txb txc txd txe txf y pl pxa pxb pxc pxd pxe pxf yy C M τ ∧ (0 ≤ σ.2.1 67 to ∧ σ.2.1 67 to ≤ b) ∧ (0 ≤ σ.2.1 67 pl ∧ σ.2.1 67 pl ≤ b)
theorem LK9.torn (h : LK9 T σ to txa txb txc txd txe txf y pl pxa pxb pxc pxd pxe pxf yy C M τ x W L1 L2 b) (hb : b ≤ 1400000000) (c : CHX (RNL to) [txa, txb, txc, txd, txe, txf] [] σ σ2) (hj : JST T σ to txa txb txc txd txe txf y v σ2) (hs : RST9 τ u τ2) : ∃ L3, ((u = 1 → nl8 L3 = nl8 L1 + 1 ∧ ∃ L0 : List E8, L3 = L0 ++ [(2, 0)]) ∧ (u ≠ 1 → nl8 L3 = nl8 L1)) ∧ SDE σ2 pl pxa pxb pxc pxd pxe pxf M 2 τ2 x W L2 ∧ LBO9 T σ2 to txa txb txc txd txe txf y pl pxa pxb pxc pxd pxe pxf yy C M τ2 ∧ σ2.2.1 67 pl = σ.2.1 67 pl ∧ (((u = 0 ∨ u = 1) ∧ v = u ∧ LK9 T σ2 to txa txb txc txd txe txf y pl pxa pxb pxc pxd pxe pxf yy C M τ2 x W L3 L2 (b + 1)) ∨ ((u = 2 ∨ u = 3) ∧ v = 0 ∧ SDD σ2 to 1 τ2 x W L3 u)) := by
  obtain ⟨A, B, S, b1, b2⟩ := h
  obtain ⟨r, p, st⟩ := hs
  have E := S.en1
  have tp := S.1
  obtain ⟨L3, n3, io⟩ := sde_st A (rwf_vw (m := 1) (τ := τ) (by rw [bk2_1]; exact S.2.1) Fr.rfl) (gdx_bk (m := 1) (by rw [bk2_1]; exact S.2.2.2.1.1)) r E.1 E.2.1 E.2.2 p (by omega) hj st
  have F := stq_fr st
  have xj : XJ 2 τ τ2 := XJ.stq st (by decide) (by decide) r E.1 p.1
  have B2 : SDE σ2 pl pxa pxb pxc pxd pxe pxf M 2 τ2 x W L2 := (B.chx c (rnl_no tp) (by
    have ap := S.ap
    refine ⟨fun z => ap _ z ?_, fun z => ap _ z ?_, fun z => ap _ z ?_, fun z => ap _ z ?_, fun z => ap _ z ?_, fun z => ap _ z ?_⟩ <;> simp)).xj B.z73 xj F (by decide) (by decide)
  have S2 : LBO9 T σ2 to txa txb txc txd txe txf y pl pxa pxb pxc pxd pxe pxf yy C M τ2 := (S.chx c (fun p hp => rnl_f hp) (fun x hx => by
    simp only [List.mem_cons, List.not_mem_nil, or_false] at hx ⊢
    omega)).fr F (by decide) (by decide)
  have e67 : σ2.2.1 67 (pl : Int) = σ.2.1 67 pl := c.f (by decide) (rnl_no tp 67 (by decide))
  refine ⟨L3, n3, B2, S2, e67, ?_⟩
  rcases io with ⟨hu, hv, A2, e⟩ | ⟨hu, hv, D⟩
  · exact Or.inl ⟨hu, hv, A2, B2, S2, by omega, by omega⟩
  · exact Or.inr ⟨hu, hv, D⟩
theorem plain9 (B : SDE σ pl pxa pxb pxc pxd pxe pxf M 2 τ x W L2) (S : LBO9 T σ to txa txb txc txd txe txf y pl pxa pxb pxc pxd pxe pxf yy C M τ) (bg : 0 ≤ σ.2.1 67 pl ∧ σ.2.1 67 pl ≤ b) (hb : b ≤ 1400000000) (c : CHX (RNL pl) [pxa, pxb, pxc, pxd, pxe, pxf] [] σ σ2) (hj : JPL9 T σ pl pxa pxb pxc pxd pxe pxf yy v σ2) (hs : RLN9 τ pv τ2) : ∃ L3, ((v = 1 ∧ pv = 1 ∧ SDE σ2 pl pxa pxb pxc pxd pxe pxf M 2 τ2 x W L3 ∧ nl8 L3 = nl8 L2 + 1 ∧ ∃ L0 : List E8, L3 = L0 ++ [(2, 0)]) ∨ (v = 0 ∧ (pv = 2 ∨ pv = 3) ∧ SDD σ2 pl 2 τ2 x W L3 pv ∧ nl8 L3 = nl8 L2)) ∧ XJ 1 τ τ2 ∧ Fr [] GW9 [] τ τ2 ∧ LBO9 T σ2 to txa txb txc txd txe txf y pl pxa pxb pxc pxd pxe pxf yy C M τ2 ∧ (v = 1 → 0 ≤ σ2.2.1 67 pl ∧ σ2.2.1 67 pl ≤ b + 8004) := by
  obtain ⟨n, nx, hn⟩ := hs
  have E := S.en2
  have rb := rk_b (nxt_run nx) E.1
  obtain ⟨L3, io, xj, F, e67⟩ := pln9 B (by rw [bk2_2]; exact S.2.2.1) (by rw [bk2_2]; exact S.2.2.2.1.2) E (by decide) (by omega) (by omega) hj nx
  refine ⟨L3, io, xj 1 (by decide), F, (S.chx c (fun p hp => rnl_f hp) (fun x hx => by
    simp only [List.mem_cons, List.not_mem_nil, or_false] at hx ⊢
    omega)).fr F (by decide) (by decide), fun z => ?_⟩
  have := e67 z
  omega
theorem jsp_no {o p : Nat} (h : JSP σ o p 1) : ¬ JSP σ o p 0 := fun z => by
  rcases h with ⟨-, h1, h2⟩ | ⟨e, -⟩
  · rcases z with ⟨e, -⟩ | ⟨-, z⟩
    · exact absurd e (by decide)
    · exact z ⟨h1, h2⟩
  · exact absurd e (by decide)
theorem alike9 {A0 B0 : List E8} (A : SDE σ to txa txb txc txd txe txf C 1 τ x W L1) (B : SDE σ pl pxa pxb pxc pxd pxe pxf M 2 τ x W L2) (un : UNA τ) (be : BEA τ) (e1 : L1 = A0 ++ [(2, 0)]) (e2 : L2 = B0 ++ [(2, 0)]) (en : nl8 L1 = nl8 L2) : PAQ τ 1 ∧ JSP σ to pl 1 := by
  have e := line9 un be A.2.1.1 B.2.1.1 e1 e2 en
  have p1 := A.2.1.2
  have p2 := B.2.1.2
  rw [← e] at p2
  have a1 := A.1.2.2.1.1
  have a2 := B.1.2.2.1.1
  rw [vw_76] at a1 a2
  refine ⟨paq_of p1 p2, Or.inl ⟨rfl, ?_, ?_⟩⟩
  · rw [a1, a2, p1.1, p2.1]
  · rw [A.2.2.1, B.2.2.1, e]
theorem stack9 (A : SDE σ to txa txb txc txd txe txf C 1 τ x W L1) (B : SDE σ pl pxa pxb pxc pxd pxe pxf M 2 τ x W L2) (S : LBO9 T σ to txa txb txc txd txe txf y pl pxa pxb pxc pxd pxe pxf yy C M τ) (r1 : RUN τ 1) (r2 : RUN τ 2) (pq : PAQ τ 1) (h : SS9 T σ a to pl txa txb txc txd txe y pxa pxc pxd pxe yy e σ2) (al : AAQ τ w) : e = 1 ↔ w = 1 := by
  have f1 : Fr [67, 68, 69, 70] GWK [] τ (vwm 1 (σ.2.1 67 to) τ) := by
    have f : Fr [67, 68, 69, 70] GWK [] (bk2 1 τ) (vwm 1 (σ.2.1 67 to) τ) := vwm_fr
    rw [bk2_1] at f; exact f
  exact ss9 (g := σ.2.1 67 to) (g2 := σ.2.1 67 pl) S.1 ⟨A.1.1, A.1.2.1, rwf_vw (m := 1) (τ := τ) (by rw [bk2_1]; exact S.2.1) Fr.rfl, (gdx_bk (m := 1) (by rw [bk2_1]; exact S.2.2.2.1.1)).1, vw_run r1⟩ ⟨B.1.1, B.1.2.1, rwf_vw (m := 2) (τ := τ) (by rw [bk2_2]; exact S.2.2.1) Fr.rfl, (gdx_bk (m := 2) (by rw [bk2_2]; exact S.2.2.2.1.2)).1, vw_run r2⟩ S.2.2.2.2.2.2.2.1 S.2.2.2.2.2.2.2.2.1 S.2.2.2.1.1.2.1 (cdw_frg S.2.2.2.2.2.2.1 f1 (by decide) (by decide)) (paq_no pq) h al
theorem ssr_chx {s k : Int} (h : SSR9 T σ a to pl txa txb txc txd txe y pxa pxc pxd pxe yy k s w σ2) : CHX (SSL9 a to pl) [] [] σ σ2 := by
  obtain ⟨b, v, σm, ⟨σa, u, c1, -, -, hh⟩, c2, -⟩ := h
  have c1 : CHX (SSL9 a to pl) [] [] σ σa := c1.sub (fun p hp => by simp only [List.mem_cons, List.not_mem_nil, or_false] at hp; rcases hp with rfl | rfl <;> simp) (fun _ z => z) (fun _ z => z)
  have c2 : CHX (SSL9 a to pl) [] [] σm σ2 := c2.sub (fun p hp => by simp only [List.mem_cons, List.not_mem_nil, or_false] at hp; rcases hp with rfl | rfl <;> simp) (fun _ z => z) (fun _ z => z)
  rcases hh with ⟨-, -, e⟩ | ⟨-, u2, c3, -⟩
  · rw [e] at c2; exact c1.trans c2
  · have c3 : CHX (SSL9 a to pl) [] [] σa σm := c3.sub (fun p hp => by simp only [List.mem_cons, List.not_mem_nil, or_false] at hp; rcases hp with rfl | rfl <;> simp) (fun _ z => z) (fun _ z => z)
    exact (c1.trans c3).trans c2
theorem ss_chx (h : SS9 T σ a to pl txa txb txc txd txe y pxa pxc pxd pxe yy e σ2) : CHX (SSL9 a to pl) [] [] σ σ2 := by
  obtain ⟨s0, -, h⟩ := h
  generalize (σ.2.1 58 to).toNat = n at h
  cases n with
  | zero =>
    have e : σ2 = σ := h.2
    rw [e]; exact CHX.rfl
  | succ n =>
    obtain ⟨s1, σ1, -, -, c, r⟩ := h
    exact c.trans (ssr_chx r)
theorem ssl_f {p : Nat × Nat} (h : p ∈ SSL9 a to pl) : p.1 = 2 ∨ p.1 = 3 ∨ p.1 = 4 ∨ (56 ≤ p.1 ∧ p.1 ≤ 71) := by
  simp only [List.mem_cons, List.not_mem_nil, or_false] at h
  rcases h with rfl | rfl | rfl | rfl | rfl | rfl <;> simp
theorem ssl_no {o : Nat} : ∀ f, (56 ≤ f ∧ f ≤ 69) → (f, o) ∉ SSL9 a to pl := fun f hf z => by
  simp only [List.mem_cons, List.not_mem_nil, or_false, Prod.mk.injEq] at z
  omega
theorem LK9.line {A0 : List E8} (h : LK9 T σ to txa txb txc txd txe txf y pl pxa pxb pxc pxd pxe pxf yy C M τ x W L1 L2 b) (hb : b ≤ 1400000000) (r1 : RUN τ 1) (e1 : L1 = A0 ++ [(2, 0)]) (en : nl8 L1 = nl8 L2 + 1) (hj : TLN9 T σ a to pl txa txb txc txd txe txf y pxa pxb pxc pxd pxe pxf yy e σ3) (hs : RLN9 τ pv τ2) : (pv = 1 ∧ (∀ w, AAQ τ2 w → (e = 1 ↔ w = 1)) ∧ ∃ L3, nl8 L3 = nl8 L1 ∧ ∀ τ3, Fr [83, 84] FOK [] τ2 τ3 → LK9 T σ3 to txa txb txc txd txe txf y pl pxa pxb pxc pxd pxe pxf yy C M τ3 x W L1 L3 (b + 8004)) ∨ ((pv = 2 ∨ pv = 3) ∧ e = 0) := by
  obtain ⟨A, B, S, b1, b2⟩ := h
  obtain ⟨u, σ2, c, -, jp, io⟩ := hj
  obtain ⟨L3, pio, xj, F, S2, e67⟩ := plain9 B S b2 hb c jp hs
  have tp := S.1
  have tq : pl ≠ to := fun z => tp z.symm
  have A2 : SDE σ2 to txa txb txc txd txe txf C 1 τ2 x W L1 := (A.chx c (rnl_no tq) (by
    have ap := S.ap
    refine ⟨ap _ ?_, ap _ ?_, ap _ ?_, ap _ ?_, ap _ ?_, ap _ ?_⟩ <;> simp)).xj A.z73 xj F (by decide) (by decide)
  rcases pio with ⟨hv, hp, B2, n3, B0, e3⟩ | ⟨hv, hp, -⟩
  · subst hp
    obtain ⟨pq, js⟩ := alike9 A2 B2 S2.2.2.2.1.1.2.2.1 S2.2.2.2.2.2.1.2 e1 e3 (by omega)
    rcases io with ⟨z, -⟩ | ⟨-, ⟨z, -⟩ | ⟨-, e01, ss⟩⟩
    · omega
    · exact absurd z (jsp_no js)
    · obtain ⟨n, nx, -⟩ := hs
      have rr1 : RUN τ2 1 := r1.x0 xj.1 F (by decide) (by decide)
      refine Or.inl ⟨rfl, fun w al => stack9 A2 B2 S2 rr1 (nxt_end nx) pq ss al, L3, by omega, fun τ3 f => ?_⟩
      have c2 := ss_chx ss
      have x1 : XJ 1 τ2 τ3 := XJ.of f (by decide)
      have x2 : XJ 2 τ2 τ3 := XJ.of f (by decide)
      have f67 : ∀ o : Nat, σ3.2.1 67 (o : Int) = σ2.2.1 67 o := fun o => c2.f (by decide) (ssl_no 67 (by decide))
      have t67 : σ2.2.1 67 (to : Int) = σ.2.1 67 to := c.f (by decide) (rnl_no tq 67 (by decide))
      have q67 := e67 hv
      exact ⟨(A2.chx c2 ssl_no (by simp)).xj A2.z73 x1 f (by decide) (by decide), (B2.chx c2 ssl_no (by simp)).xj B2.z73 x2 f (by decide) (by decide), (S2.chx c2 (fun p hp => ssl_f hp) (fun x hx => absurd hx List.not_mem_nil)).fr f (by decide) (by decide), by rw [f67, t67]; omega, by rw [f67]; omega⟩
  · refine Or.inr ⟨hp, ?_⟩
    rcases io with ⟨-, z, -⟩ | ⟨z, -⟩
    · exact z
    · omega
theorem end10 (D : SDD σ to 1 τ x W L1 iz) (hz : iz = 2 ∨ iz = 3) (B : SDE σ pl pxa pxb pxc pxd pxe pxf M 2 τ x W L2) (S : LBO9 T σ to txa txb txc txd txe txf y pl pxa pxb pxc pxd pxe pxf yy C M τ) (bg : 0 ≤ σ.2.1 67 pl ∧ σ.2.1 67 pl ≤ b) (hb : b ≤ 1400000000) (en : nl8 L1 = nl8 L2) (hj : TEN9 T σ a to pl txa txb txc txd txe txf y pxa pxb pxc pxd pxe pxf yy e) (hs : RLN9 τ pv τ2) (be : BEN9 τ2 iz pv k v) : (e = 1 ∧ v = k) ∨ (e = 0 ∧ v = -2 - k) := by
  obtain ⟨u, σ2, c, -, jp, io⟩ := hj
  obtain ⟨L3, pio, xj, F, S2, -⟩ := plain9 B S bg hb c jp hs
  have tq : pl ≠ to := fun z => S.1 z.symm
  have D2 := (D.chx c (rnl_no tq)).xj xj F (by decide) (by decide)
  rcases pio with ⟨hv, hp, -⟩ | ⟨hv, hp, E, n3⟩
  · have e0 : e = 0 := by
      rcases io with ⟨-, z, -⟩ | ⟨z, -⟩
      · omega
      · exact z
    refine Or.inr ⟨e0, ?_⟩
    rcases be with ⟨-, z⟩ | ⟨z, -⟩ | ⟨z, -⟩
    · exact z
    · omega
    · omega
  · obtain ⟨d1, d2, ⟨d3, d4, d5⟩, A0, d6⟩ := D2
    obtain ⟨g1, g2, ⟨g3, g4, g5⟩, B0, g6⟩ := E
    have un := S2.2.2.2.1.1.2.2.1
    have ba := S2.2.2.2.2.2.1.2
    have el : L1 = L3 := by
      rcases g6 with ⟨-, -, q⟩ | ⟨-, -, q, -⟩
      · exact (end9 un ba d1 g1 q (Or.inl ⟨Or.inl rfl, by omega⟩)).1
      · exact (end9 un ba d1 g1 q (Or.inl ⟨Or.inr rfl, by omega⟩)).1
    subst el
    have pq := paq_of d2 g2
    have js : JSP σ2 to pl 1 := Or.inl ⟨rfl, by rw [d3, g3, d2.1, g2.1], by rw [d4, g4]⟩
    have eq : iz = pv ∧ τ2.2.1 75 1 = τ2.2.1 75 2 ∧ σ2.2.1 56 to = σ2.2.1 56 pl := by
      rcases d6 with ⟨a1, a2, a3⟩ | ⟨a1, a2, a3, a4⟩
      · rcases g6 with ⟨q1, q2, q3⟩ | ⟨q1, q2, q3, q4⟩
        · rw [a3] at q3
          have z := (List.append_inj' q3 rfl).2
          have z2 : τ2.2.1 75 1 = τ2.2.1 75 2 := by have := congrArg (fun l : List E8 => (l.getD 0 (0, 0)).2) z; exact this
          exact ⟨by omega, z2, by omega⟩
        · rw [a3] at q3
          have z := (List.append_inj' q3 rfl).2
          have z2 := congrArg (fun l : List E8 => (l.getD 0 (0, 0)).1) z
          exact absurd z2 (by show ¬ ((3 : Int) = 4); decide)
      · rcases g6 with ⟨q1, q2, q3⟩ | ⟨q1, q2, q3, q4⟩
        · rw [a3] at q3
          have z := (List.append_inj' q3 rfl).2
          have z2 := congrArg (fun l : List E8 => (l.getD 0 (0, 0)).1) z
          exact absurd z2 (by show ¬ ((4 : Int) = 3); decide)
        · exact ⟨by omega, by omega, by omega⟩
    obtain ⟨z1, z2, z3⟩ := eq
    have e1 : e = 1 := by
      rcases io with ⟨z, -⟩ | ⟨-, z | z | z | z⟩
      · exact z
      · omega
      · exact absurd z3.symm z
      · exact absurd z (jsp_no js)
      · exact absurd (by rw [d5, g5]; exact z2.symm) z
    refine Or.inl ⟨e1, ?_⟩
    rcases be with ⟨z, -⟩ | ⟨-, -, ⟨-, -, z⟩ | ⟨z, -⟩⟩ | ⟨z, -⟩
    · exact absurd z1 z
    · exact z
    · rcases z with z | ⟨-, z⟩
      · exact absurd z (paq_no pq)
      · exact absurd z2 z
    · omega
end LK9S
end
