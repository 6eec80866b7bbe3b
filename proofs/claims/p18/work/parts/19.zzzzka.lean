section
section IT9
variable {S : Nat → Prop} {T : CT} {σ σ2 σ3 σ4 τ τ2 τ3 : MS} {o to pl y yy a p9 txa txb txc txd txe txf pxa pxb pxc pxd pxe pxf : Nat} {C M X : Int → Nat} {q x u0 u1 u2 u3 n v v2 : Int}
def CDX (S : Nat → Prop) (T : CT) (σ τ : MS) (X : Int → Nat) : Prop := ∀ q, 0 ≤ q → q < τ.1 10 → (S (X q) ∧ OB T (X q) 1) ∧ (cdS σ (X q) = rS τ q ∧ σ.2.1 8 (X q) = τ.2.1 11 q) ∧ (WOK (cdW σ (X q)) (σ.2.1 6 (X q)) ∧ LNK (cdW σ (X q)) (σ.2.1 6 (X q)) ∧ RN9 σ (X q) (τ.2.1 12))
theorem ob_nn {a b : Nat} (h : OB T a 1) (g : OB T b 7) : a ≠ b := fun e => by
  subst e
  have h1 := h.2.1
  have h2 := g.2.1
  omega
theorem rwf_o (hI : INJ S T σ) (so : S o) (on : OB T o 7) (hw : WT T σ) (t6 : τ.1 10 ≤ 6) (gb : ∀ q, 0 ≤ q → q < τ.1 10 → τ.2.1 9 q ≤ 200) (ky : (T y).1 = 4 ∨ (T y).1 = 5) (hy : ∀ q, 0 ≤ q → q < 6 → σ.2.1 (1000 + y) q = (X q : Int)) (hX : CDX S T σ τ X) : RWF T σ o (adN σ 59 o) (adN σ 60 o) (adN σ 61 o) (adN σ 62 o) (adN σ 63 o) (adN σ 64 o) y X τ := by
  have k59 := (ad_ex (Q := fun x => AR T x 15 9 9) (wf_59 hw on)).2
  have k60 := (ad_ex (Q := fun x => AR T x 1 9 9) (wf_60 hw on)).2
  have k61 := (ad_ex (Q := fun x => (T x).2 = 9 ∧ ((T o).1 = 57 → (T x).1 = 14) ∧ ((T o).1 ≠ 57 → (T x).1 = 1)) (wf_61 hw on)).2
  have k62 := (ad_ex (Q := fun x => AR T x 1 108 108) (wf_62 hw on)).2
  have k63 := (ad_ex (Q := fun x => AR T x 1 1728 1728) (wf_63 hw on)).2
  have k64 := (ad_ex (Q := fun x => AR T x 1 200 200) (wf_64 hw on)).2
  have ne : ∀ {f g : Nat}, f ∈ RN59 → g ∈ RN59 → f ≠ g → adN σ f o ≠ adN σ g o := fun hf hg h => hI.ne so so (by rw [(rn_lt hf).2.2]; exact on) (by rw [(rn_lt hg).2.2]; exact on) (rn_lt hf).2.1 (rn_lt hg).2.1 (Or.inl h)
  refine ⟨⟨⟨ne (by decide) (by decide) (by decide), ne (by decide) (by decide) (by decide), ne (by decide) (by decide) (by decide), ne (by decide) (by decide) (by decide), ne (by decide) (by decide) (by decide)⟩, ⟨ne (by decide) (by decide) (by decide), ne (by decide) (by decide) (by decide), ne (by decide) (by decide) (by decide), ne (by decide) (by decide) (by decide)⟩, ⟨ne (by decide) (by decide) (by decide), ne (by decide) (by decide) (by decide), ne (by decide) (by decide) (by decide)⟩, ⟨ne (by decide) (by decide) (by decide), ne (by decide) (by decide) (by decide)⟩, ne (by decide) (by decide) (by decide)⟩, ?_, ⟨hy, ?_⟩, fun q q0 q1 => ?_⟩
  · have z1 := k59.2
    have z2 := k60.2
    have z3 := k61.1
    have z4 := k62.2
    have z5 := k63.2
    have z6 := k64.2
    omega
  · intro h
    have z1 := k59.1
    have z2 := k60.1
    have z4 := k62.1
    have z5 := k63.1
    have z6 := k64.1
    have z3 : (T (adN σ 61 o)).1 = 14 ∨ (T (adN σ 61 o)).1 = 1 := by
      by_cases e : (T o).1 = 57
      · exact Or.inl (k61.2.1 e)
      · exact Or.inr (k61.2.2 e)
    simp only [List.mem_cons, List.not_mem_nil, or_false] at h
    rcases h with e | e | e | e | e | e <;> (rw [e] at ky; omega)
  · obtain ⟨⟨sx, oc⟩, A, B⟩ := hX q q0 q1
    have nc := ob_nn oc on
    have n9 := gb q q0 q1
    have e6 : σ.2.1 6 (X q) = τ.2.1 9 q := congrArg RTS.n A.1
    have w5 := ad_ex (wf_5 hw oc)
    have w12 := ad_ex (Q := fun x => AR T x 1 12 12) (wf_12 hw oc)
    have w15 := ad_ex (Q := fun x => AR T x 1 144 144) (wf_15 hw oc)
    refine ⟨nc, A, B, ⟨w5.1, w12.1, w15.1⟩, ⟨?_, by have := w12.2.2; omega, by have := w15.2.2; omega⟩, fun f hf h => ?_⟩
    · rcases hw.2.1 (X q) (adN σ 5 (X q)) oc w5.1 with z | z <;> omega
    · have fc : f ∈ AFL ∧ cls f = 1 := by
        simp only [List.mem_cons, List.not_mem_nil, or_false] at hf
        rcases hf with e | e | e | e | e | e <;> rw [e] <;> exact ⟨by decide, rfl⟩
      have nn : ∀ {g : Nat}, g ∈ RN59 → adN σ f (X q) ≠ adN σ g o := fun hg => hI.ne sx so (by rw [fc.2]; exact oc) (by rw [(rn_lt hg).2.2]; exact on) fc.1 (rn_lt hg).2.1 (Or.inr nc)
      simp only [List.mem_cons, List.not_mem_nil, or_false] at h
      rcases h with e | e | e | e | e | e
      · exact nn (by decide) e
      · exact nn (by decide) e
      · exact nn (by decide) e
      · exact nn (by decide) e
      · exact nn (by decide) e
      · exact nn (by decide) e
theorem own6 (h : q = 0) (so : S o) (oo : OB T o 7) : ∀ x : Nat, x ∈ [adN σ 59 o, adN σ 60 o, adN σ 61 o, adN σ 62 o, adN σ 63 o, adN σ 64 o] → ∃ g b, g ∈ RN59 ∧ b = o ∧ (S b ∧ OB T b 7) ∧ x = adN σ g b := fun x hx => by
  simp only [List.mem_cons, List.not_mem_nil, or_false] at hx
  rcases hx with e | e | e | e | e | e
  · exact ⟨59, o, by decide, rfl, ⟨so, oo⟩, e⟩
  · exact ⟨60, o, by decide, rfl, ⟨so, oo⟩, e⟩
  · exact ⟨61, o, by decide, rfl, ⟨so, oo⟩, e⟩
  · exact ⟨62, o, by decide, rfl, ⟨so, oo⟩, e⟩
  · exact ⟨63, o, by decide, rfl, ⟨so, oo⟩, e⟩
  · exact ⟨64, o, by decide, rfl, ⟨so, oo⟩, e⟩
theorem lsp_of (hI : INJ S T σ) (hb : TBJ S T σ) (hw : WT T σ) (st : S to) (sp : S pl) (ot : OB T to 7) (op : OB T pl 7) (ne : to ≠ pl) (t6 : τ.1 10 ≤ 6) (ky : (T y).1 = 4 ∨ (T y).1 = 5) (kyy : (T yy).1 = 4 ∨ (T yy).1 = 5) (hC : ∀ q, 0 ≤ q → q < τ.1 10 → S (C q) ∧ OB T (C q) 1) (hM : ∀ q, 0 ≤ q → q < τ.1 10 → S (M q) ∧ OB T (M q) 1) : LSP σ to (adN σ 59 to) (adN σ 60 to) (adN σ 61 to) (adN σ 62 to) (adN σ 63 to) (adN σ 64 to) y pl (adN σ 59 pl) (adN σ 60 pl) (adN σ 61 pl) (adN σ 62 pl) (adN σ 63 pl) (adN σ 64 pl) yy C M τ := by
  have own : ∀ x : Nat, x ∈ XS9 (adN σ 59 to) (adN σ 60 to) (adN σ 61 to) (adN σ 62 to) (adN σ 63 to) (adN σ 64 to) (adN σ 59 pl) (adN σ 60 pl) (adN σ 61 pl) (adN σ 62 pl) (adN σ 63 pl) (adN σ 64 pl) → ∃ g b, g ∈ RN59 ∧ (S b ∧ OB T b 7) ∧ x = adN σ g b := fun x hx => by
    have hx2 : x ∈ [adN σ 59 to, adN σ 60 to, adN σ 61 to, adN σ 62 to, adN σ 63 to, adN σ 64 to] ++ [adN σ 59 pl, adN σ 60 pl, adN σ 61 pl, adN σ 62 pl, adN σ 63 pl, adN σ 64 pl] := hx
    rcases List.mem_append.mp hx2 with z | z
    · obtain ⟨g, b, h1, -, h2, h3⟩ := own6 (q := 0) rfl st ot x z
      exact ⟨g, b, h1, h2, h3⟩
    · obtain ⟨g, b, h1, -, h2, h3⟩ := own6 (q := 0) rfl sp op x z
      exact ⟨g, b, h1, h2, h3⟩
  have cd : ∀ c : Nat, S c → OB T c 1 → ∀ f, f ∈ AF6 → adN σ f c ∉ XS9 (adN σ 59 to) (adN σ 60 to) (adN σ 61 to) (adN σ 62 to) (adN σ 63 to) (adN σ 64 to) (adN σ 59 pl) (adN σ 60 pl) (adN σ 61 pl) (adN σ 62 pl) (adN σ 63 pl) (adN σ 64 pl) := fun c sc oc f hf hm => by
    obtain ⟨g, b, hg, ⟨sb, ob⟩, e⟩ := own _ hm
    have fc : f ∈ AFL ∧ cls f = 1 := by
      simp only [List.mem_cons, List.not_mem_nil, or_false] at hf
      rcases hf with e | e | e | e | e | e <;> rw [e] <;> exact ⟨by decide, rfl⟩
    exact hI.ne sc sb (by rw [fc.2]; exact oc) (by rw [(rn_lt hg).2.2]; exact ob) fc.1 (rn_lt hg).2.1 (Or.inr (ob_nn oc ob)) e
  have yk : ∀ z : Nat, ((T z).1 = 4 ∨ (T z).1 = 5) → z ∉ XS9 (adN σ 59 to) (adN σ 60 to) (adN σ 61 to) (adN σ 62 to) (adN σ 63 to) (adN σ 64 to) (adN σ 59 pl) (adN σ 60 pl) (adN σ 61 pl) (adN σ 62 pl) (adN σ 63 pl) (adN σ 64 pl) := fun z hz hm => by
    obtain ⟨g, b, hg, ⟨sb, ob⟩, e⟩ := own _ hm
    have w := (af_k hw (rn_lt hg).2.1 (by rw [(rn_lt hg).2.2]; exact ob)).2
    rw [← e] at w
    unfold AFK at w
    omega
  refine ⟨fun q q0 q1 => ⟨fun f hf => ⟨cd _ (hC q q0 q1).1 (hC q q0 q1).2 f hf, cd _ (hM q q0 q1).1 (hM q q0 q1).2 f hf⟩, fun t et hm => ?_⟩, ⟨yk y ky, yk yy kyy⟩, fun z hz hm => ?_⟩
  · obtain ⟨g, b, hg, ⟨sb, ob⟩, e⟩ := own _ hm
    exact hb q t q0 (by omega) et g b (rn_lt hg).2.1 sb (by rw [(rn_lt hg).2.2]; exact ob) e
  · obtain ⟨g, b, hg, eb, ⟨sb, ob⟩, e⟩ := own6 (q := 0) rfl st ot z hz
    obtain ⟨g2, b2, hg2, eb2, ⟨sb2, ob2⟩, e2⟩ := own6 (q := 0) rfl sp op z hm
    exact hI.ne sb sb2 (by rw [(rn_lt hg).2.2]; exact ob) (by rw [(rn_lt hg2).2.2]; exact ob2) (rn_lt hg).2.1 (rn_lt hg2).2.1 (Or.inr (by rw [eb, eb2]; exact ne)) (e.symm.trans e2)
theorem xj_sma (h : SMA9 τ 2 x u0 u1 u2 u3 τ2) : XJ 1 τ τ2 := by
  obtain ⟨F, -, -, X, -, -, -, -, r82, r81, r75⟩ := h
  refine ⟨X 1 (by decide), r75 1 (by decide), fun i _ _ => ?_, fun i i0 i1 => r81 _ (by omega), fun i i0 i1 => r82 _ (by omega)⟩
  rw [F.2.1 77 (by decide)]
theorem bes_m {ss ks js : List Nat} (L : LBO9 T σ to txa txb txc txd txe txf y pl pxa pxb pxc pxd pxe pxf yy C M τ) (jt : CHX (RNL to) [txa, txb, txc, txd, txe, txf] [] σ σ2) (F : Fr ss ks js τ τ2) (hs : 10 ∉ ss) (hk : ∀ k ∈ CK9, k ∉ ks) : LBO9 T σ2 to txa txb txc txd txe txf y pl pxa pxb pxc pxd pxe pxf yy C M τ2 := (L.chx jt (fun p hp => rnl_f hp) (fun x hx => by
  simp only [List.mem_cons, List.not_mem_nil, or_false] at hx ⊢
  omega)).fr F hs hk
theorem bes_n {ss ks js : List Nat} (L : LBO9 T σ to txa txb txc txd txe txf y pl pxa pxb pxc pxd pxe pxf yy C M τ) (jt : CHX (RNL pl) [pxa, pxb, pxc, pxd, pxe, pxf] [] σ σ2) (F : Fr ss ks js τ τ2) (hs : 10 ∉ ss) (hk : ∀ k ∈ CK9, k ∉ ks) : LBO9 T σ2 to txa txb txc txd txe txf y pl pxa pxb pxc pxd pxe pxf yy C M τ2 := (L.chx jt (fun p hp => rnl_f hp) (fun x hx => by
  simp only [List.mem_cons, List.not_mem_nil, or_false] at hx ⊢
  omega)).fr F hs hk
theorem bes_t (L : LBO9 T σ to txa txb txc txd txe txf y pl pxa pxb pxc pxd pxe pxf yy C M τ) (hx : 0 ≤ x ∧ x < τ.1 10) (bt : JBG T σ to txa txb txc txd txe y x u0 u1 u2 u3 σ2) (M1 : SMA9 τ 1 x u0 u1 u2 u3 τ2) : SDE σ2 to txa txb txc txd txe txf C 1 τ2 x (prW u0 u1 u2 u3) [] ∧ σ2.2.1 67 to = 0 := by
  obtain ⟨-, w, -, g, b, -⟩ := L
  exact start9 (m := 1) (by rw [bk2_1]; exact w) (by rw [bk2_1]; exact g.1) hx (fun _ => g.1.1) g.1.2.1 b.1 bt M1
theorem bes_p (L : LBO9 T σ to txa txb txc txd txe txf y pl pxa pxb pxc pxd pxe pxf yy C M τ) (hx : 0 ≤ x ∧ x < τ.1 10) (bt : JBG T σ pl pxa pxb pxc pxd pxe yy x u0 u1 u2 u3 σ2) (M1 : SMA9 τ 2 x u0 u1 u2 u3 τ2) : SDE σ2 pl pxa pxb pxc pxd pxe pxf M 2 τ2 x (prW u0 u1 u2 u3) [] ∧ σ2.2.1 67 pl = 0 := by
  obtain ⟨-, -, w, g, b, -⟩ := L
  exact start9 (m := 2) (by rw [bk2_2]; exact w) (by rw [bk2_2]; exact g.2) hx (fun z => absurd rfl z) g.1.2.1 b.2 bt M1
theorem bes_q (L : LBO9 T σ to txa txb txc txd txe txf y pl pxa pxb pxc pxd pxe pxf yy C M τ) (A : SDE σ2 to txa txb txc txd txe txf C 1 τ x (prW u0 u1 u2 u3) []) (jp : CHX (RNL pl) [pxa, pxb, pxc, pxd, pxe, pxf] [] σ2 σ3) (M2 : SMA9 τ 2 x u0 u1 u2 u3 τ2) : SDE σ3 to txa txb txc txd txe txf C 1 τ2 x (prW u0 u1 u2 u3) [] := by
  have tq : pl ≠ to := fun z => L.1 z.symm
  have ap := L.ap
  refine (A.chx jp (rnl_no tq) ⟨ap _ ?_, ap _ ?_, ap _ ?_, ap _ ?_, ap _ ?_, ap _ ?_⟩).xj A.z73 (xj_sma M2) M2.1 (by decide) (by decide) <;> simp
theorem pr3_f {p : Nat × Nat} (hp : p ∈ [(2, p9), (3, p9), (4, p9)]) : p.1 = 2 ∨ p.1 = 3 ∨ p.1 = 4 ∨ (56 ≤ p.1 ∧ p.1 ≤ 71) := by
  simp only [List.mem_cons, List.not_mem_nil, or_false] at hp
  rcases hp with rfl | rfl | rfl <;> simp
theorem pr3_n : ∀ f, (56 ≤ f ∧ f ≤ 69) → (f, o) ∉ [(2, p9), (3, p9), (4, p9)] := fun f hf z => by
  simp only [List.mem_cons, List.not_mem_nil, or_false, Prod.mk.injEq] at z
  omega
theorem bes9 (L : LBO9 T σ to txa txb txc txd txe txf y pl pxa pxb pxc pxd pxe pxf yy C M τ) (jt : CHX (RNL to) [txa, txb, txc, txd, txe, txf] [] σ σ2) (bt : JBG T σ to txa txb txc txd txe y x u0 u1 u2 u3 σ2) (jp : CHX (RNL pl) [pxa, pxb, pxc, pxd, pxe, pxf] [] σ2 σ3) (bp : JBG T σ2 pl pxa pxb pxc pxd pxe yy x u0 u1 u2 u3 σ3) (jb : CHX [(2, p9), (3, p9), (4, p9)] [] [] σ3 σ4) (tg : TG9 T σ4 p9 to pl txa txb txc txd txe txf y pxa pxb pxc pxd pxe pxf yy n v) (hx : 0 ≤ x ∧ x < τ.1 10) (hn : 1 ≤ n ∧ n ≤ 20000) (rb : RBS9 τ x u0 u1 u2 u3 n v2) : v = v2 := by
  rcases rb with ⟨z, -⟩ | ⟨-, s1, s2, s3, F1, M1, M2, be⟩
  · exact absurd ⟨hx, hn⟩ z
  have tq : pl ≠ to := fun z => L.1 z.symm
  have L1 := L.fr F1 (by decide) (by decide)
  have x1 : 0 ≤ x ∧ x < s1.1 10 := by rw [F1.1 10 (by decide)]; exact hx
  have x2 : 0 ≤ x ∧ x < s2.1 10 := by rw [M1.1.1 10 (by decide)]; exact x1
  have A := bes_t L1 x1 bt M1
  have L2 := bes_m L1 jt M1.1 (by decide) (by decide)
  have B := bes_p L2 x2 bp M2
  have L3 := bes_n L2 jp M2.1 (by decide) (by decide)
  have L4 := L3.chx jb (fun p hp => pr3_f hp) (fun x hx => absurd hx List.not_mem_nil)
  have A2 := bes_q L2 A.1 jp M2
  have e1 : σ4.2.1 67 (to : Int) = 0 := by
    rw [jb.f (by decide) (pr3_n 67 (by decide)), jp.f (by decide) (rnl_no tq 67 (by decide))]; exact A.2
  have e2 : σ4.2.1 67 (pl : Int) = 0 := by
    rw [jb.f (by decide) (pr3_n 67 (by decide))]; exact B.2
  exact tog9 ⟨A2.chx jb pr3_n (by simp), B.1.chx jb pr3_n (by simp), L4, by rw [e1]; decide, by rw [e2]; decide⟩ hn tg be
end IT9
end
