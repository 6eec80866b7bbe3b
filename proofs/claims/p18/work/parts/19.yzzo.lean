section
theorem ntg_stk {s : Int → Int} {k : Nat} {t : TK} {x : Int × Int × Int} {q : QR} {r : List Nat × TK × (Int × Int × Int) × QR × List EV} (hk : NTg k) (h : stk s k t x q = some r) : ∀ y ∈ r.1, NTg y := by
  unfold stk at h
  split at h
  all_goals (try (exact absurd hk (by decide)))
  all_goals (repeat' split at h)
  all_goals (cases h)
  all_goals exact ntg rfl
abbrev EBD (e : EW) : Prop := e.1 = 4 ∨ e.1 = 5 ∨ e.1 = 1 ∨ e.1 = 9
theorem ev_body {s : Int → Int} : ∀ (n : Nat) {K : List Nat} {t : TK} {x : Int × Int × Int} {q : QR} {ρ : List EV}, (∀ y ∈ K, NTg y) → ∀ e ∈ evs s n (K, t, x, q, ρ), EBD e
  | 0, _, _, _, _, _, _ => fun e h => absurd h (by show ¬ e ∈ ([] : List EW); simp)
  | n + 1, [], t, x, q, ρ, _ => by
    intro e h
    have z : evs s (n + 1) ([], t, x, q, ρ) = [] := evs_fix (stp_nil s t x q ρ) rfl (n + 1)
    rw [z] at h; exact absurd h (by simp)
  | n + 1, k :: K, t, x, q, ρ, hK => by
    intro e h
    have hk : NTg k := hK k (by simp)
    have h9 : k ≠ 999 := by rcases hk with z | z <;> omega
    have h2 : e ∈ evt s (k :: K, t, x, q, ρ) ++ evs s n (stp s (k :: K, t, x, q, ρ)) := h
    cases r : stk s k t x q with
    | none =>
      rw [stp_none r, evs_fix (stp_pF s) rfl n, List.append_nil, evt_n h9 r] at h2
      rw [List.mem_singleton.mp h2]; exact Or.inr (Or.inr (Or.inr rfl))
    | some r9 =>
      rw [stp_some r, evt_s h9 r] at h2
      rcases List.mem_append.mp h2 with w | w
      · rcases evk_body (t := t) (x := x) (q := q) hk with z | ⟨e9, z, z2⟩
        · rw [z] at w; exact absurd w (by simp)
        · rw [z] at w
          rw [List.mem_singleton.mp w]
          rcases z2 with ⟨z3 | z3, -⟩ | z3
          · exact Or.inl z3
          · exact Or.inr (Or.inl z3)
          · exact Or.inr (Or.inr (Or.inl z3))
      · exact ev_body n (fun y hy => (List.mem_append.mp hy).elim (ntg_stk hk r y) (fun w => hK y (List.mem_cons_of_mem _ w))) e w
theorem GR.bd {S : Int → Int} {i i3 : Nat} {m : Int} {es : List EW} (h : GR S [28] i 0 0 u0 [] i3 0 0 u0 m es) : ∀ e ∈ es, EBD e := by
  obtain ⟨t', l, -, w⟩ := h 0 0 0 (tkS S i) TEQ.rf
  obtain ⟨n, -, e⟩ := w [] []
  rw [← e]
  exact ev_body n (by intro y hy; rw [List.mem_singleton.mp hy]; exact Or.inl (by decide))
section FOB
variable {c : CS} {e : EW} {es : List EW} {q : Int}
theorem uC_bd (h : EBD e) : (uC c e).rn = c.rn ∧ (uC c e).rp = c.rp := by
  show (sC c e).rn = c.rn ∧ (sC c e).rp = c.rp
  unfold sC
  rw [if_neg (by omega), if_neg (by omega), if_neg (by omega)]
  by_cases h4 : e.1 = 4
  · rw [if_pos h4]; exact ⟨(sCn_q c e.2.2.2).1, (sCn_q c e.2.2.2).2.2.1⟩
  · rw [if_neg h4]
    by_cases h5 : e.1 = 5
    · rw [if_pos h5]; exact ⟨rfl, rfl⟩
    · rw [if_neg h5]
      by_cases h1 : e.1 = 1
      · rw [if_pos h1]; exact ⟨rfl, rfl⟩
      · rw [if_neg h1]; exact ⟨rfl, rfl⟩
theorem fo_bd (h : ∀ e ∈ es, EBD e) : (es.foldl uC c).rn = c.rn ∧ (es.foldl uC c).rp = c.rp := by
  induction es generalizing c with
  | nil => exact ⟨rfl, rfl⟩
  | cons e es ih =>
    have z := uC_bd (c := c) (h e (by simp))
    have w := ih (c := uC c e) (fun x hx => h x (List.mem_cons_of_mem _ hx))
    exact ⟨w.1.trans z.1, w.2.trans z.2⟩
theorem uC0_q {p m : Int} {w : Int64} : (uC c (0, p, m, w)).rn = c.rn ∧ (uC c (0, p, m, w)).rp = c.rp ∧ (uC c (0, p, m, w)).nn = c.nn ∧ (uC c (0, p, m, w)).nk = c.nk := by rw [uC0]; exact ⟨rfl, rfl, rfl, rfl⟩
theorem uC0_m {p m : Int} {w : Int64} (h : (uC c (0, p, m, w)).fp.1 = 0) : m ≤ 120 := by
  by_cases z : 120 < m
  · rw [uC0o z] at h
    have h2 : (cntN 5 p c.fp).1 = 0 := h
    exact absurd h2 (fun q => cntN_z (by decide) q)
  · omega
end FOB
def PFX (es : List EW) (Pf : Int → List EW) : Prop := ∀ q, 0 ≤ q → q < (es.foldl uC c00).rn → ((Pf q).foldl uC c00).rn = q + 1 ∧ ∃ p m w e2, es = Pf q ++ (0, p, m, w) :: e2
def CDM (σ : MS) (e : Nat) (q n : Int) (V : Int → It) (fs N P : Int) : Prop := ((σ.2.1 6 e = n ∧ σ.2.1 7 e = N ∧ σ.2.1 9 e = fs ∧ σ.2.1 10 e = 1) ∧ (P ≤ 4 → σ.2.1 8 e = P)) ∧ (rwF σ 11 e 0 = q ∧ rwF σ 12 e 0 = -1 ∧ rwF σ 13 e 0 = 0 ∧ rwF σ 14 e 0 = N ∧ ∀ m, 0 ≤ m → m < N → rwF σ 15 e m = m) ∧ (n ≤ 120 → ∃ W, vW W = V ∧ BRW W n ∧ ∀ k, 0 ≤ k → k < n → cdW σ e k = nnI N (W k))
theorem CDM.csm {σ τ : MS} {e : Nat} {q n fs N P : Int} {V : Int → It} (h : CDM σ e q n V fs N P) (c : CSM σ τ e) : CDM τ e q n V fs N P := by
  unfold CDM at h ⊢
  rw [c.1 6 (by decide) (by decide), c.1 7 (by decide) (by decide), c.1 8 (by decide) (by decide), c.1 9 (by decide) (by decide), c.1 10 (by decide) (by decide), c.rw (f := 11) (by decide) (by decide) (by decide), c.rw (f := 12) (by decide) (by decide) (by decide), c.rw (f := 13) (by decide) (by decide) (by decide), c.rw (f := 14) (by decide) (by decide) (by decide), c.rw (f := 15) (by decide) (by decide) (by decide), c.w]
  exact h
def MK.dn (m : MK) : Int → Int × (Int → It) := m.2.2.2.2.1
def MK.fr (m : MK) : Int → Int := m.2.2.2.2.2
def SPX (Sj : Nat → Prop) (E : Int → Nat) (T : CT) (σ : MS) (a : Nat) : Prop := Sj a ∧ (∀ q, 0 ≤ q → q < 7 → σ.2.1 (1000 + adN σ 34 a) q = (E q : Int) ∧ Sj (E q) ∧ (T (E q)).1 = 31) ∧ ∀ p q, 0 ≤ p → p < 7 → 0 ≤ q → q < 7 → E p = E q → p = q
abbrev RN59 : List Nat := [59, 60, 61, 62, 63, 64]
def RNR (Sj : Nat → Prop) (T : CT) (σ τ : MS) : Prop := ∀ f (b : Nat), f ∈ RN59 → Sj b → (T b).1 = 37 → τ.2.1 f b = σ.2.1 f b ∧ τ.2.1 (1000 + adN σ f b) = σ.2.1 (1000 + adN σ f b)
theorem RNR.rfl {Sj : Nat → Prop} {T : CT} {σ : MS} : RNR Sj T σ σ := fun _ _ _ _ _ => ⟨Eq.refl _, Eq.refl _⟩
theorem RNR.trans {Sj : Nat → Prop} {T T2 : CT} {σ τ υ : MS} (h : RNR Sj T σ τ) (gt : GT T T2) (g : RNR Sj T2 τ υ) : RNR Sj T σ υ := fun f b hf sb tb => by
  have q := h f b hf sb tb
  have w := g f b hf sb (by rw [gt b (by omega) (by omega)]; exact tb)
  have e : adN τ f b = adN σ f b := by unfold adN; rw [q.1]
  rw [e] at w
  exact ⟨w.1.trans q.1, w.2.trans q.2⟩
theorem rn_af {T : CT} {f b : Nat} (hf : f ∈ RN59) (tb : (T b).1 = 37) : (59 ≤ f ∧ f ≤ 64) ∧ f ∈ AFL ∧ OB T b (cls f) := by
  have c : cls f = 7 := by
    simp only [List.mem_cons, List.not_mem_nil, or_false] at hf
    rcases hf with e | e | e | e | e | e <;> rw [e] <;> exact Eq.refl _
  refine ⟨by simp only [List.mem_cons, List.not_mem_nil, or_false] at hf; omega, ?_, ?_⟩
  · simp only [List.mem_cons, List.not_mem_nil, or_false] at hf
    rcases hf with e | e | e | e | e | e <;> rw [e] <;> decide
  · rw [c]; exact ⟨by omega, by rw [tb]; exact Eq.refl _, by omega⟩
theorem RNR.fld {Sj : Nat → Prop} {T : CT} {σ τ : MS} {n : Nat} {i v : Int} (h : RNR Sj T σ τ) (hn : (n < 59 ∨ 64 < n) ∧ n < 1000) : RNR Sj T σ (sA n i v τ) := fun f b hf sb tb => by
  have q := h f b hf sb tb
  have f5 := (rn_af hf tb).1
  rw [sA_k (by omega), sA_k (by omega)]
  exact q
theorem RNR.chx {Sj : Nat → Prop} {T : CT} {σ τ : MS} {ks : List (Nat × Nat)} {rs ls : List Nat} (hI : INJ Sj T σ) (ch : CHX ks rs ls σ τ) (hk : ∀ p, p ∈ ks → p.1 < 59 ∨ 64 < p.1) (hr : ∀ x, x ∈ rs → ∃ g c, g ∈ AFL ∧ (g < 59 ∨ 64 < g) ∧ Sj c ∧ OB T c (cls g) ∧ x = adN σ g c) : RNR Sj T σ τ := fun f b hf sb tb => by
  obtain ⟨f5, fa, ob⟩ := rn_af hf tb
  exact ⟨ch.1 f b (by omega) (fun p hp e => by have := hk p hp; omega), ch.r (fun q => by
    obtain ⟨g, c, hg, ng, sc, oc, e⟩ := hr _ q
    exact hI.ne sb sc ob oc fa hg (Or.inl (by omega)) e)⟩
theorem RNR.chn {Sj : Nat → Prop} {T : CT} {σ τ : MS} {ks : List (Nat × Nat)} {rs ls : List Nat} (hI : INJ Sj T σ) (hw : WT T σ) (ch : CHN T ks rs ls σ τ) (hk : ∀ p, p ∈ ks → p.1 < 59 ∨ 64 < p.1) (hr : ∀ x, x ∈ rs → ∃ g c, g ∈ AFL ∧ (g < 59 ∨ 64 < g) ∧ Sj c ∧ OB T c (cls g) ∧ x = adN σ g c) : RNR Sj T σ τ := fun f b hf sb tb => by
  obtain ⟨f5, fa, ob⟩ := rn_af hf tb
  have z := (af_k hw fa ob).2
  unfold AFK at z
  exact ⟨ch.1 f b (by omega) (fun p hp e => by have := hk p hp; omega), ch.2.1 _ (fun q => by
    obtain ⟨g, c, hg, ng, sc, oc, e⟩ := hr _ q
    exact hI.ne sb sc ob oc fa hg (Or.inl (by omega)) e) (by omega)⟩
def FRT (Sj : Nat → Prop) (E : Int → Nat) (T0 : CT) (σ0 : MS) (T : CT) (σ : MS) : Prop := GT T0 T ∧ (∀ e, Sj e → (T0 e).1 = 50 → CSM σ0 σ e) ∧ (∀ x, (T0 x).1 = 4 ∨ (T0 x).1 = 5 → σ.2.1 (1000 + x) = σ0.2.1 (1000 + x)) ∧ RNR Sj T0 σ0 σ ∧ TBR Sj T0 σ0 σ ∧ ∀ e, Sj e → OB T0 e 1 → (∀ p, 0 ≤ p → p < 7 → e ≠ E p) → CSM σ0 σ e
def TLC (Sj : Nat → Prop) (E : Int → Nat) (nm : Int → Int64 → Int) (z0 : MK) (T : CT) (σ : MS) (a : Nat) (S : Int → Int) (i : Nat) (es : List EW) (N : Int) (mz : MK) (Pf : Int → List EW) : Prop := (σ.2.1 45 a = mz.ln ∧ σ.2.1 50 a = mz.pk ∧ σ.2.1 51 a = mz.pv) ∧ mz.rt = (es.foldl uC c00).rn ∧ PFX es Pf ∧ ((∀ q, 0 ≤ q → q < (es.foldl uC c00).rn → NMA nm q ((Pf q).foldl uC c00)) → TXW S nm rnQ tb1 z0 i N mz) ∧ ((es.foldl uC c00).fp.1 = 0 → (es.foldl uC c00).rn ≤ 6 ∧ ∀ q, 0 ≤ q → q < (es.foldl uC c00).rn → (mz.dn q).1 ≤ 120) ∧ ∀ q, 0 ≤ q → q < (es.foldl uC c00).rn → q < 6 → CDM σ (E q) q (mz.dn q).1 (mz.dn q).2 (mz.fr q) ((Pf q).foldl uC c00).nn ((es.foldl uC c00).rp q)
def TLM (Sj : Nat → Prop) (E : Int → Nat) (nm : Int → Int64 → Int) (z0 : MK) (T0 : CT) (σ0 : MS) (T : CT) (σ : MS) (a : Nat) (S : Int → Int) (n : Nat) (k : Int) : Prop := INJ Sj T σ ∧ SPX Sj E T σ a ∧ FRT Sj E T0 σ0 T σ ∧ ∃ (i : Nat) (es : List EW) (N : Int) (mz : MK) (Pf : Int → List EW), k ≤ (i : Int) ∧ TR9 S i N es ∧ RD0 σ a S n i (es.foldl uC c00) ∧ 5 * (es.foldl uC c00).rn ≤ (i : Int) ∧ (es.foldl uC c00).m ≤ (i : Int) ∧ TLC Sj E nm z0 T σ a S i es N mz Pf
section FRTS
variable {Sj : Nat → Prop} {E : Int → Nat} {T T0 T2 : CT} {σ σ0 τ s0 s1 : MS} {a c e x : Nat} {i j : Int} {m : MK}
theorem WT.fz (h : WT T σ) : WT T (fzg σ) := by
  obtain ⟨h1, h2, h3, h4, h5, b, K, h6, h7, h8, h9, h10⟩ := h
  refine ⟨h1, h2, h3, h4, h5, b, K, h6, h7, h8, ?_, ?_⟩
  · show (0 : Int) ≤ _; exact Int.natCast_nonneg _
  · show (0 : Int) ≤ _; exact Int.natCast_nonneg _
theorem r45 (hw : WT T σ) (hx : (T x).1 = 4 ∨ (T x).1 = 5) {f b : Nat} (hf : f ∈ AFL) (ob : OB T b (cls f)) : x ≠ adN σ f b := fun q => by
  have z := (af_k hw hf ob).2
  rw [← q] at z
  unfold AFK at z
  omega
theorem OPM.csm (h : OPM σ s0 a c i) (hI : INJ Sj T σ) (ha : OB T a 5) (sa : Sj a) (sc : Sj c) (oc : OB T c 1) (se : Sj e) (oe : OB T e 1) (ne : e ≠ c) : CSM σ s0 e := by
  have ch := h.2.2.2.2
  refine ⟨fun f f0 f1 => ch.f (by omega) (by simp only [List.mem_cons, List.not_mem_nil, or_false, Prod.mk.injEq]; omega), fun f hf => ch.r (fun q => ?_)⟩
  have fa : f ∈ AFL ∧ cls f = 1 := by
    simp only [List.mem_cons, List.not_mem_nil, or_false] at hf
    rcases hf with rfl | rfl | rfl | rfl | rfl | rfl <;> exact ⟨by decide, rfl⟩
  have fb : f ≠ 36 ∧ f ≠ 37 := by
    simp only [List.mem_cons, List.not_mem_nil, or_false] at hf
    omega
  have oe' : OB T e (cls f) := by rw [fa.2]; exact oe
  simp only [List.mem_cons, List.not_mem_nil, or_false] at q
  rcases q with q | q | q | q | q | q
  · exact hI.ne (g := 36) se sa oe' ha fa.1 (by decide) (Or.inl fb.1) q
  · exact hI.ne (g := 37) se sa oe' ha fa.1 (by decide) (Or.inl fb.2) q
  · exact hI.ne (g := 11) se sc oe' oc fa.1 (by decide) (Or.inr ne) q
  · exact hI.ne (g := 12) se sc oe' oc fa.1 (by decide) (Or.inr ne) q
  · exact hI.ne (g := 13) se sc oe' oc fa.1 (by decide) (Or.inr ne) q
  · exact hI.ne (g := 14) se sc oe' oc fa.1 (by decide) (Or.inr ne) q
theorem OPM.r (h : OPM σ s0 a c i) (hw : WT T σ) (ha : OB T a 5) (oc : OB T c 1) (hx : (T x).1 = 4 ∨ (T x).1 = 5) : s0.2.1 (1000 + x) = σ.2.1 (1000 + x) := h.2.2.2.2.r (fun q => by
  simp only [List.mem_cons, List.not_mem_nil, or_false] at q
  rcases q with q | q | q | q | q | q
  · exact r45 hw hx (f := 36) (by decide) ha q
  · exact r45 hw hx (f := 37) (by decide) ha q
  · exact r45 hw hx (f := 11) (by decide) oc q
  · exact r45 hw hx (f := 12) (by decide) oc q
  · exact r45 hw hx (f := 13) (by decide) oc q
  · exact r45 hw hx (f := 14) (by decide) oc q)
theorem OPM.inj (h : OPM σ s0 a c i) (hI : INJ Sj T σ) : INJ Sj T s0 := hI.keep (fun f b hf => h.2.2.2.2.f (by simp only [List.mem_cons, List.not_mem_nil, or_false] at hf; omega) (by
  simp only [List.mem_cons, List.not_mem_nil, or_false] at hf
  simp only [List.mem_cons, List.not_mem_nil, or_false, Prod.mk.injEq]
  omega))
theorem FG.r {Tg : CT} {g : MS} (h : FG Tg g T σ a) (hw : WT Tg g) (ha : OB Tg a 5) (oc : OB Tg (adN g 35 a) 1) (hx : (Tg x).1 = 4 ∨ (Tg x).1 = 5) : σ.2.1 (1000 + x) = g.2.1 (1000 + x) := h.2.1.2.1 x (fun q => by
  rcases List.mem_append.mp q with q | q
  · simp only [List.mem_cons, List.not_mem_nil, or_false] at q
    rcases q with q | q
    · exact r45 hw hx (f := 5) (by decide) oc q
    · exact r45 hw hx (f := 48) (by decide) ha q
  · unfold RRX at q
    by_cases z : g.1 5 = 1
    · rw [if_pos z] at q; exact absurd q (by simp)
    · rw [if_neg z] at q
      simp only [List.mem_cons, List.not_mem_nil, or_false] at q
      rcases q with q | q | q | q | q
      · exact r45 hw hx (f := 37) (by decide) ha q
      · exact r45 hw hx (f := 39) (by decide) ha q
      · exact r45 hw hx (f := 40) (by decide) ha q
      · exact r45 hw hx (f := 41) (by decide) ha q
      · exact r45 hw hx (f := 49) (by decide) ha q) (by omega)
theorem CLT.csm (h : CLT s1 τ c i j) (hI : INJ Sj T s1) (sc : Sj c) (oc : OB T c 1) (se : Sj e) (oe : OB T e 1) (ne : e ≠ c) : CSM s1 τ e := by
  have ch := h.1
  refine ⟨fun f f0 f1 => ch.f (by omega) (by simp), fun f hf => ch.r (fun q => ?_)⟩
  have fa : f ∈ AFL ∧ cls f = 1 := by
    simp only [List.mem_cons, List.not_mem_nil, or_false] at hf
    rcases hf with rfl | rfl | rfl | rfl | rfl | rfl <;> exact ⟨by decide, rfl⟩
  have oe' : OB T e (cls f) := by rw [fa.2]; exact oe
  simp only [List.mem_cons, List.not_mem_nil, or_false] at q
  rcases q with q | q | q
  · exact hI.ne (g := 14) se sc oe' oc fa.1 (by decide) (Or.inr ne) q
  · exact hI.ne (g := 15) se sc oe' oc fa.1 (by decide) (Or.inr ne) q
  · exact hI.ne (g := 5) se sc oe' oc fa.1 (by decide) (Or.inr ne) q
theorem CLT.r (h : CLT s1 τ c i j) (hw : WT T s1) (oc : OB T c 1) (hx : (T x).1 = 4 ∨ (T x).1 = 5) : τ.2.1 (1000 + x) = s1.2.1 (1000 + x) := h.1.r (fun q => by
  simp only [List.mem_cons, List.not_mem_nil, or_false] at q
  rcases q with q | q | q
  · exact r45 hw hx (f := 14) (by decide) oc q
  · exact r45 hw hx (f := 15) (by decide) oc q
  · exact r45 hw hx (f := 5) (by decide) oc q)
theorem CLT.inj (h : CLT s1 τ c i j) (hI : INJ Sj T s1) : INJ Sj T τ := hI.keep (fun f b hf => h.1.f (by simp only [List.mem_cons, List.not_mem_nil, or_false] at hf; omega) (by simp))
theorem OPM.rnr (h : OPM σ s0 a c i) (hI : INJ Sj T σ) (ha : OB T a 5) (sa : Sj a) (sc : Sj c) (oc : OB T c 1) : RNR Sj T σ s0 := RNR.chx hI h.2.2.2.2 (fun p hp => by
  simp only [List.mem_cons, List.not_mem_nil, or_false] at hp
  rcases hp with rfl | rfl | rfl | rfl | rfl | rfl | rfl | rfl | rfl | rfl | rfl <;> simp) (fun x q => by
  simp only [List.mem_cons, List.not_mem_nil, or_false] at q
  rcases q with q | q | q | q | q | q
  · exact ⟨36, a, by decide, Or.inl (by decide), sa, ha, q⟩
  · exact ⟨37, a, by decide, Or.inl (by decide), sa, ha, q⟩
  · exact ⟨11, c, by decide, Or.inl (by decide), sc, oc, q⟩
  · exact ⟨12, c, by decide, Or.inl (by decide), sc, oc, q⟩
  · exact ⟨13, c, by decide, Or.inl (by decide), sc, oc, q⟩
  · exact ⟨14, c, by decide, Or.inl (by decide), sc, oc, q⟩)
theorem CLT.rnr (h : CLT s1 τ c i j) (hI : INJ Sj T s1) (sc : Sj c) (oc : OB T c 1) : RNR Sj T s1 τ := RNR.chx hI h.1 (fun p hp => absurd hp (by simp)) (fun x q => by
  simp only [List.mem_cons, List.not_mem_nil, or_false] at q
  rcases q with q | q | q
  · exact ⟨14, c, by decide, Or.inl (by decide), sc, oc, q⟩
  · exact ⟨15, c, by decide, Or.inl (by decide), sc, oc, q⟩
  · exact ⟨5, c, by decide, Or.inl (by decide), sc, oc, q⟩)
theorem FG.rnr {Tg : CT} {g : MS} (h : FG Tg g T σ a) (hI : INJ Sj Tg g) (hw : WT Tg g) (ha : OB Tg a 5) (sa : Sj a) (sc : Sj (adN g 35 a)) (oc : OB Tg (adN g 35 a) 1) : RNR Sj Tg g σ := RNR.chn hI hw h.2.1 (fun p hp => by
  simp only [List.mem_cons, List.not_mem_nil, or_false] at hp
  rcases hp with rfl | rfl | rfl | rfl | rfl | rfl | rfl | rfl | rfl | rfl | rfl | rfl | rfl | rfl | rfl | rfl | rfl <;> simp) (fun x q => by
  rcases List.mem_append.mp q with q | q
  · simp only [List.mem_cons, List.not_mem_nil, or_false] at q
    rcases q with q | q
    · exact ⟨5, adN g 35 a, by decide, Or.inl (by decide), sc, oc, q⟩
    · exact ⟨48, a, by decide, Or.inl (by decide), sa, ha, q⟩
  · unfold RRX at q
    by_cases z : g.1 5 = 1
    · rw [if_pos z] at q; exact absurd q (by simp)
    · rw [if_neg z] at q
      simp only [List.mem_cons, List.not_mem_nil, or_false] at q
      rcases q with q | q | q | q | q
      · exact ⟨37, a, by decide, Or.inl (by decide), sa, ha, q⟩
      · exact ⟨39, a, by decide, Or.inl (by decide), sa, ha, q⟩
      · exact ⟨40, a, by decide, Or.inl (by decide), sa, ha, q⟩
      · exact ⟨41, a, by decide, Or.inl (by decide), sa, ha, q⟩
      · exact ⟨49, a, by decide, Or.inl (by decide), sa, ha, q⟩)
theorem OPM.tbr (h : OPM σ s0 a c i) (hI : INJ Sj T σ) (ha : OB T a 5) (sa : Sj a) (sc : Sj c) (oc : OB T c 1) : TBR Sj T σ s0 := TBR.chx hI h.2.2.2.2 (fun p hp => by
  simp only [List.mem_cons, List.not_mem_nil, or_false] at hp
  rcases hp with rfl | rfl | rfl | rfl | rfl | rfl | rfl | rfl | rfl | rfl | rfl <;> simp) (fun x q => by
  simp only [List.mem_cons, List.not_mem_nil, or_false] at q
  rcases q with q | q | q | q | q | q
  · exact ⟨36, a, by decide, by decide, sa, ha, q⟩
  · exact ⟨37, a, by decide, by decide, sa, ha, q⟩
  · exact ⟨11, c, by decide, by decide, sc, oc, q⟩
  · exact ⟨12, c, by decide, by decide, sc, oc, q⟩
  · exact ⟨13, c, by decide, by decide, sc, oc, q⟩
  · exact ⟨14, c, by decide, by decide, sc, oc, q⟩)
theorem CLT.tbr (h : CLT s1 τ c i j) (hI : INJ Sj T s1) (sc : Sj c) (oc : OB T c 1) : TBR Sj T s1 τ := TBR.chx hI h.1 (fun p hp => absurd hp (by simp)) (fun x q => by
  simp only [List.mem_cons, List.not_mem_nil, or_false] at q
  rcases q with q | q | q
  · exact ⟨14, c, by decide, by decide, sc, oc, q⟩
  · exact ⟨15, c, by decide, by decide, sc, oc, q⟩
  · exact ⟨5, c, by decide, by decide, sc, oc, q⟩)
theorem FG.tbr {Tg : CT} {g : MS} (h : FG Tg g T σ a) (hI : INJ Sj Tg g) (hw : WT Tg g) (ha : OB Tg a 5) (sa : Sj a) (sc : Sj (adN g 35 a)) (oc : OB Tg (adN g 35 a) 1) : TBR Sj Tg g σ := TBR.chn hI h.2.1 (fun f b hf sb ob => by
  by_cases z : f = 5 ∧ b = adN g 35 a
  · obtain ⟨rfl, rfl⟩ := z
    exact h.2.2
  · refine Or.inl (h.2.1.f (afl_1000 hf) ?_)
    simp only [List.mem_cons, List.not_mem_nil, or_false] at hf
    simp only [List.mem_cons, List.not_mem_nil, or_false, Prod.mk.injEq]
    omega) (fun x q => by
  rcases List.mem_append.mp q with q | q
  · simp only [List.mem_cons, List.not_mem_nil, or_false] at q
    rcases q with q | q
    · exact ⟨5, adN g 35 a, by decide, by decide, sc, oc, q⟩
    · exact ⟨48, a, by decide, by decide, sa, ha, q⟩
  · unfold RRX at q
    by_cases z : g.1 5 = 1
    · rw [if_pos z] at q; exact absurd q (by simp)
    · rw [if_neg z] at q
      simp only [List.mem_cons, List.not_mem_nil, or_false] at q
      rcases q with q | q | q | q | q
      · exact ⟨37, a, by decide, by decide, sa, ha, q⟩
      · exact ⟨39, a, by decide, by decide, sa, ha, q⟩
      · exact ⟨40, a, by decide, by decide, sa, ha, q⟩
      · exact ⟨41, a, by decide, by decide, sa, ha, q⟩
      · exact ⟨49, a, by decide, by decide, sa, ha, q⟩)
theorem SPX.spk (h : SPX Sj E T σ a) : SPK Sj T σ a := ⟨h.1, fun q q0 q1 => ⟨E q, h.2.1 q q0 q1⟩⟩
theorem SPX.ob (h : SPX Sj E T σ a) {q : Int} (q0 : 0 ≤ q) (q1 : q < 7) : OB T (E q) 1 := by
  have t := (h.2.1 q q0 q1).2.2
  exact ⟨by omega, by rw [t]; rfl, by omega⟩
theorem SPX.mv (h : SPX Sj E T σ a) (hw : WT T σ) (ha : OB T a 5) (gt : GT T T2) (k34 : τ.2.1 34 a = σ.2.1 34 a) (kr : ∀ x, (T x).1 = 4 ∨ (T x).1 = 5 → τ.2.1 (1000 + x) = σ.2.1 (1000 + x)) : SPX Sj E T2 τ a := by
  obtain ⟨y, y1, y2⟩ := wf_34 hw ha
  have ey : adN σ 34 a = y := adN_of y1
  have e2 : adN τ 34 a = adN σ 34 a := by unfold adN; rw [k34]
  refine ⟨h.1, fun q q0 q1 => ?_, h.2.2⟩
  have z := h.2.1 q q0 q1
  refine ⟨?_, z.2.1, ?_⟩
  · rw [e2, kr _ (Or.inl (by rw [ey]; exact y2.1))]; exact z.1
  · rw [gt (E q) (by omega) (by omega)]; exact z.2.2
theorem FRT.rfl (hI : INJ Sj T0 σ0) : FRT Sj E T0 σ0 T0 σ0 := ⟨GT.rfl, fun _ _ _ => ⟨fun _ _ _ => Eq.refl _, fun _ _ => Eq.refl _⟩, fun _ _ => Eq.refl _, RNR.rfl, TBR.rfl hI, fun _ _ _ _ => ⟨fun _ _ _ => Eq.refl _, fun _ _ => Eq.refl _⟩⟩
theorem FRT.on (h : FRT Sj E T0 σ0 T σ) (gt : GT T T2) (kc : ∀ e, Sj e → (T e).1 = 50 → CSM σ τ e) (kr : ∀ x, (T x).1 = 4 ∨ (T x).1 = 5 → τ.2.1 (1000 + x) = σ.2.1 (1000 + x)) (k7 : RNR Sj T σ τ) (k8 : TBR Sj T σ τ) (k9 : ∀ e, Sj e → OB T e 1 → (∀ p, 0 ≤ p → p < 7 → e ≠ E p) → CSM σ τ e) : FRT Sj E T0 σ0 T2 τ := ⟨h.1.trans gt, fun e se te => (h.2.1 e se te).trans (kc e se (by rw [h.1 e (by omega) (by omega)]; exact te)), fun x hx => (kr x (by rw [h.1 x (by omega) (by omega)]; exact hx)).trans (h.2.2.1 x hx), h.2.2.2.1.trans h.1 k7, h.2.2.2.2.1.trans h.1 k8, fun e se oe ne => (h.2.2.2.2.2 e se oe ne).trans (k9 e se (h.1.ob oe) ne)⟩
theorem FRT.og (h : FRT Sj E T0 σ0 T σ) (hI : INJ Sj T σ) (hp : SPX Sj E T σ a) (hw : WT T σ) (ha : OB T a 5) (op : OPM σ s0 a c i) (hi : 0 ≤ i ∧ i < 7) (hw0 : WT T s0) (fg : FG T (fzg s0) T2 τ a) : INJ Sj T2 τ ∧ SPX Sj E T2 τ a ∧ FRT Sj E T0 σ0 T2 τ ∧ c = E i ∧ ∀ e, Sj e → OB T e 1 → e ≠ c → CSM σ τ e := by
  have ei : c = E i := by have z := (hp.2.1 i hi.1 hi.2).1; rw [op.1] at z; omega
  have sc : Sj c := by rw [ei]; exact (hp.2.1 i hi.1 hi.2).2.1
  have oc : OB T c 1 := by rw [ei]; exact hp.ob hi.1 hi.2
  have sa := hp.1
  have e35 : adN (fzg s0) 35 a = c := adN_of op.2.1
  have wz := hw0.fz
  have iz : INJ Sj T (fzg s0) := op.inj hI
  have key : ∀ e, Sj e → OB T e 1 → e ≠ c → CSM σ τ e := fun e se oe ne => (op.csm hI ha sa sc oc se oe ne).trans (fg.csm iz wz ha sa (by rw [e35]; exact sc) se oe (by rw [e35]; exact ne))
  have kr : ∀ x, (T x).1 = 4 ∨ (T x).1 = 5 → τ.2.1 (1000 + x) = σ.2.1 (1000 + x) := fun x hx => (fg.r wz ha (by rw [e35]; exact oc) hx).trans (op.r hw ha oc hx)
  have k34 : τ.2.1 34 a = σ.2.1 34 a := (fg.2.1.f (n := 34) (a := a) (by decide) (by simp)).trans (op.2.2.2.2.f (by decide) (by simp))
  refine ⟨fg.inj iz wz (by rw [e35]; exact sc), hp.mv hw ha fg.1 k34 kr, h.on fg.1 (fun e se te => key e se ⟨by omega, by rw [te]; rfl, by omega⟩ (fun q => ?_)) kr ((op.rnr hI ha sa sc oc).trans GT.rfl (show RNR Sj T s0 τ from fg.rnr iz wz ha sa (by rw [e35]; exact sc) (by rw [e35]; exact oc))) ((op.tbr hI ha sa sc oc).trans GT.rfl (show TBR Sj T s0 τ from fg.tbr iz wz ha sa (by rw [e35]; exact sc) (by rw [e35]; exact oc))) (fun e se oe nz => key e se oe (fun q => nz i hi.1 hi.2 (q.trans ei))), ei, key⟩
  have t := (hp.2.1 i hi.1 hi.2).2.2
  rw [← ei, ← q] at t
  omega
theorem FRT.nt (h : FRT Sj E T0 σ0 T σ) (hI : INJ Sj T σ) (hp : SPX Sj E T σ a) (hw : WT T σ) (ha : OB T a 5) (ch : CHX [(43, a), (44, a)] [] [] σ τ) : INJ Sj T τ ∧ SPX Sj E T τ a ∧ FRT Sj E T0 σ0 T τ := ⟨hI.keep (fun f b hf => ch.f (by simp only [List.mem_cons, List.not_mem_nil, or_false] at hf; omega) (by
    simp only [List.mem_cons, List.not_mem_nil, or_false] at hf
    simp only [List.mem_cons, List.not_mem_nil, or_false, Prod.mk.injEq]
    omega)), hp.mv hw ha GT.rfl (ch.f (by decide) (by simp)) (fun x _ => ch.r (by simp)), h.on GT.rfl (fun e _ _ => csm_chx ch (fun p hp => by
      simp only [List.mem_cons, List.not_mem_nil, or_false] at hp
      rcases hp with rfl | rfl <;> (show 16 < _; omega)) (fun f _ => by simp)) (fun x _ => ch.r (by simp)) (RNR.chx hI ch (fun p hp => by
      simp only [List.mem_cons, List.not_mem_nil, or_false] at hp
      rcases hp with rfl | rfl <;> simp) (fun x hx => absurd hx (by simp))) (TBR.chx hI ch (fun p hp => by
      simp only [List.mem_cons, List.not_mem_nil, or_false] at hp
      rcases hp with rfl | rfl <;> simp) (fun x hx => absurd hx (by simp))) (fun e _ _ _ => csm_chx ch (fun p hp => by
      simp only [List.mem_cons, List.not_mem_nil, or_false] at hp
      rcases hp with rfl | rfl <;> (show 16 < _; omega)) (fun f _ => by simp))⟩
end FRTS
section TLCS
variable {Sj : Nat → Prop} {E : Int → Nat} {nm : Int → Int64 → Int} {z0 mz mw : MK} {T T0 T3 : CT} {σ σ0 τ s0 s1 : MS} {a d n : Nat} {S : Int → Int} {i i2 i3 : Nat} {es e2 e3 : List EW} {N k m p ix : Int} {Pf : Int → List EW}
theorem FG.own {Tg : CT} {g : MS} {f : Nat} (h : FG Tg g T σ a) (hI : INJ Sj Tg g) (hw : WT Tg g) (ha : OB Tg a 5) (sa : Sj a) (sc : Sj (adN g 35 a)) (hf : f ∈ [11, 12, 13]) : rwF σ f (adN g 35 a) = rwF g f (adN g 35 a) := by
  have oc : OB Tg (adN g 35 a) 1 := by
    obtain ⟨y, h1, h2⟩ := wf_35 hw ha
    rw [adN_of h1]
    exact ⟨by omega, by rw [h2]; rfl, by omega⟩
  have f6 : f ∈ AF6 ∧ f ∈ AFL ∧ cls f = 1 ∧ f ≠ 5 ∧ f ≠ 48 ∧ f ≠ 37 ∧ f ≠ 39 ∧ f ≠ 40 ∧ f ≠ 41 ∧ f ≠ 49 := by
    simp only [List.mem_cons, List.not_mem_nil, or_false] at hf
    rcases hf with rfl | rfl | rfl <;> exact ⟨by decide, by decide, rfl, by decide, by decide, by decide, by decide, by decide, by decide, by decide⟩
  have oc' : OB Tg (adN g 35 a) (cls f) := by rw [f6.2.2.1]; exact oc
  have ea : adN σ f (adN g 35 a) = adN g f (adN g 35 a) := by
    unfold adN
    rw [h.2.1.f (by simp only [List.mem_cons, List.not_mem_nil, or_false] at hf; omega) (by
      simp only [List.mem_cons, List.not_mem_nil, or_false] at hf
      simp only [List.mem_cons, List.not_mem_nil, or_false, Prod.mk.injEq]
      omega)]
  unfold rwF
  rw [ea]
  refine h.2.1.2.1 _ (fun q => ?_) (by have z := af6_k hw oc f f6.1; omega)
  rcases List.mem_append.mp q with q | q
  · simp only [List.mem_cons, List.not_mem_nil, or_false] at q
    rcases q with q | q
    · exact hI.ne (g := 5) sc sc oc' oc f6.2.1 (by decide) (Or.inl f6.2.2.2.1) q
    · exact hI.ne (g := 48) sc sa oc' ha f6.2.1 (by decide) (Or.inl f6.2.2.2.2.1) q
  · unfold RRX at q
    by_cases z : g.1 5 = 1
    · rw [if_pos z] at q; exact absurd q (by simp)
    · rw [if_neg z] at q
      simp only [List.mem_cons, List.not_mem_nil, or_false] at q
      rcases q with q | q | q | q | q
      · exact hI.ne (g := 37) sc sa oc' ha f6.2.1 (by decide) (Or.inl f6.2.2.2.2.2.1) q
      · exact hI.ne (g := 39) sc sa oc' ha f6.2.1 (by decide) (Or.inl f6.2.2.2.2.2.2.1) q
      · exact hI.ne (g := 40) sc sa oc' ha f6.2.1 (by decide) (Or.inl f6.2.2.2.2.2.2.2.1) q
      · exact hI.ne (g := 41) sc sa oc' ha f6.2.1 (by decide) (Or.inl f6.2.2.2.2.2.2.2.2.1) q
      · exact hI.ne (g := 49) sc sa oc' ha f6.2.1 (by decide) (Or.inl f6.2.2.2.2.2.2.2.2.2) q
theorem CLT.own {f : Nat} {u v : Int} (h : CLT s1 τ d u v) (hI : INJ Sj T s1) (sc : Sj d) (oc : OB T d 1) (hf : f ∈ [11, 12, 13]) : rwF τ f d = rwF s1 f d := by
  have f6 : f ∈ AFL ∧ cls f = 1 ∧ f ≠ 5 ∧ f ≠ 14 ∧ f ≠ 15 := by
    simp only [List.mem_cons, List.not_mem_nil, or_false] at hf
    rcases hf with rfl | rfl | rfl <;> exact ⟨by decide, rfl, by decide, by decide, by decide⟩
  have oc' : OB T d (cls f) := by rw [f6.2.1]; exact oc
  unfold rwF
  rw [h.ad f d (by simp only [List.mem_cons, List.not_mem_nil, or_false] at hf; omega)]
  refine h.1.r (fun q => ?_)
  simp only [List.mem_cons, List.not_mem_nil, or_false] at q
  rcases q with q | q | q
  · exact hI.ne (g := 14) sc sc oc' oc f6.1 (by decide) (Or.inl f6.2.2.2.1) q
  · exact hI.ne (g := 15) sc sc oc' oc f6.1 (by decide) (Or.inl f6.2.2.2.2) q
  · exact hI.ne (g := 5) sc sc oc' oc f6.1 (by decide) (Or.inl f6.2.2.1) q
theorem CDM.of {q c3n kp : Int} (g1 : MG T (fzg s0) T3 s1 a (mw.put (mkI 7 0 0 1 0 0))) (e35 : adN (fzg s0) 35 a = d) (ct : CLT s1 τ d (s1.2.1 7 d) (if s1.2.1 6 d < 120 then s1.2.1 6 d else 120)) (em : EMC s0 d q) (h7 : τ.2.1 7 d = c3n) (k8 : kp ≤ 4 → τ.2.1 8 d = kp) (hI : INJ Sj T s0) (hw0 : WT T s0) (ha : OB T a 5) (sa : Sj a) (sd : Sj d) (od : OB T d 1) : CDM τ d q (mw.n + 1) (uZ mw.V mw.n (mkI 7 0 0 1 0 0)) mw.fs c3n kp := by
  have n1 : s1.2.1 6 d = mw.n + 1 := g1.e6 e35
  have iz : INJ Sj T (fzg s0) := hI
  have i1 : INJ Sj T3 s1 := g1.1.inj iz hw0.fz (by rw [e35]; exact sd)
  have o3 : OB T3 d 1 := by
    have z := g1.1.1 d (by have := hI.1 d sd; omega) (by have := hI.1 d sd; omega)
    unfold OB at od ⊢; rw [z]; exact od
  have s7 : s1.2.1 7 d = c3n := (ct.f 7 d (by decide)).symm.trans h7
  have r : ∀ f, f ∈ [11, 12, 13] → rwF τ f d = rwF s0 f d := fun f hf => by
    rw [ct.own i1 sd o3 hf]
    have z := g1.1.own iz hw0.fz ha sa (by rw [e35]; exact sd) hf
    rw [e35] at z
    exact z
  refine ⟨⟨⟨(ct.f 6 d (by decide)).trans n1, h7, (ct.f 9 d (by decide)).trans (g1.e9 e35), ?_⟩, k8⟩, ⟨?_, ?_, ?_, ?_, fun m m0 m1 => ct.2.2.1 m m0 (by rw [s7]; exact m1)⟩, fun hn => ?_⟩
  · rw [ct.f 10 d (by decide)]
    have z : s1.2.1 10 d = (fzg s0).2.1 10 d := g1.1.2.1.f (by decide) (by simp)
    exact z.trans em.1.2.2
  · rw [r 11 (by decide)]; exact em.2.1
  · rw [r 12 (by decide)]; exact em.2.2.1
  · rw [r 13 (by decide)]; exact em.2.2.2.1
  · rw [ct.2.1]; exact s7
  · have w := g1.2.2.1 (show mw.n + 1 ≤ 200 by omega)
    rw [e35] at w
    refine ⟨cdW s1 d, w.1, w.2.2, fun k k0 k1 => ?_⟩
    rw [ct.2.2.2 (by omega) k, if_pos ⟨k0, by split <;> omega⟩, s7]
theorem TLC.on (hS : SB S) (hk : ckd (tkS S i) ≠ 264) (h : TLC Sj E nm z0 T σ a S i es N mz Pf) (h0 : 0 ≤ (es.foldl uC c00).rn)
    (hd : HRM S i i2 k) (er : (e2.foldl uC (es.foldl uC c00)).rn = (es.foldl uC c00).rn + 1) (ep : (e2.foldl uC (es.foldl uC c00)).rp (es.foldl uC c00).rn = k) (eq : ∀ q, q < (es.foldl uC c00).rn → (e2.foldl uC (es.foldl uC c00)).rp q = (es.foldl uC c00).rp q) (ef : (e2.foldl uC (es.foldl uC c00)).fp.1 = 0 → (es.foldl uC c00).rn < 6)
    (gb : ∀ e ∈ e3, EBD e) (cn : CN nm mz.e35.rt (e3.foldl uC (e2.foldl uC (es.foldl uC c00))) (GW S nm rnQ tb1 [28] i2 0 0 u0 mz.e35 [] i3 0 0 u0 m (mw.on mz.e35)))
    (g1 : MG T (fzg s0) T3 s1 a (mw.put (mkI 7 0 0 1 0 0))) (op : OPM σ s0 a d (if (es.foldl uC c00).rn < 6 then (es.foldl uC c00).rn else 6)) (ct : CLT s1 τ d (s1.2.1 7 d) (if s1.2.1 6 d < 120 then s1.2.1 6 d else 120)) (rx : RDX τ a S n i3 ((es ++ e2 ++ e3 ++ [(0, p, 0 + m + 1, 0)]).foldl uC c00) (0 + m + 1)) (k8 : k ≤ 4 → τ.2.1 8 d = k)
    (kc : ∀ q, 0 ≤ q → q < 7 → E q ≠ d → CSM σ τ (E q)) (hp : SPX Sj E T σ a) (ed : d = E (if (es.foldl uC c00).rn < 6 then (es.foldl uC c00).rn else 6)) (hI : INJ Sj T s0) (hw0 : WT T s0) (ha : OB T a 5) :
    TLC Sj E nm z0 T3 τ a S i3 (es ++ e2 ++ e3 ++ [(0, p, 0 + m + 1, 0)]) (0 + m + 1) ((mw.on mz.e35).one tb1).e34 (uZ Pf (es.foldl uC c00).rn (es ++ e2 ++ e3)) := by
  obtain ⟨-, h2, h3, h4, h5, h6⟩ := h
  have f3 : (es ++ e2 ++ e3).foldl uC c00 = e3.foldl uC (e2.foldl uC (es.foldl uC c00)) := by rw [List.foldl_append, List.foldl_append]
  have fz : (es ++ e2 ++ e3 ++ [(0, p, 0 + m + 1, 0)]).foldl uC c00 = uC (e3.foldl uC (e2.foldl uC (es.foldl uC c00))) (0, p, 0 + m + 1, 0) := by rw [List.foldl_append, f3]; rfl
  have b3 := fo_bd (c := e2.foldl uC (es.foldl uC c00)) gb
  have q0 := uC0_q (c := e3.foldl uC (e2.foldl uC (es.foldl uC c00))) (p := p) (m := 0 + m + 1) (w := 0)
  have rz : ((es ++ e2 ++ e3 ++ [(0, p, 0 + m + 1, 0)]).foldl uC c00).rn = (es.foldl uC c00).rn + 1 := by rw [fz, q0.1, b3.1, er]
  have e35 : adN (fzg s0) 35 a = d := adN_of op.2.1
  have cf : ∀ n (b : Nat), n < 1000 → τ.2.1 n b = s1.2.1 n b := fun n b hn => ct.f n b hn
  have t35 : τ.2.1 35 a = (d : Int) := by
    rw [cf 35 a (by decide), g1.1.f35]
    exact op.2.1
  have nz : mw.n + 1 = 0 + m + 1 := by
    have z1 : s1.2.1 6 d = mw.n + 1 := g1.e6 e35
    have z2 := rx.2.2 d t35
    rw [cf 6 d (by decide)] at z2
    omega
  have dz : ((mw.on mz.e35).one tb1).e34.dn = uZ mz.dn mz.rt (mw.n + 1, uZ mw.V mw.n (mkI 7 0 0 1 0 0)) := rfl
  have rz2 : ((mw.on mz.e35).one tb1).e34.fr = uZ mz.fr mz.rt mw.fs := rfl
  refine ⟨⟨(cf 45 a (by decide)).trans g1.e45, (cf 50 a (by decide)).trans g1.e50, (cf 51 a (by decide)).trans g1.e51⟩, ?_, fun q q1 q2 => ?_, fun hn => ?_, fun hf => ?_, fun q q1 q2 q6 => ?_⟩
  · rw [rz]
    show mz.rt + 1 = _
    rw [h2]
  · rw [rz] at q2
    by_cases z : q = (es.foldl uC c00).rn
    · subst z
      rw [uZ_eq, f3, b3.1, er]
      exact ⟨rfl, p, 0 + m + 1, 0, [], rfl⟩
    · rw [uZ_ne z]
      obtain ⟨w1, p1, m1, w2, e4, w3⟩ := h3 q q1 (by omega)
      refine ⟨w1, p1, m1, w2, e4 ++ (e2 ++ (e3 ++ [(0, p, 0 + m + 1, 0)])), ?_⟩
      rw [w3]
      simp only [List.append_assoc, List.cons_append]
  · rw [rz] at hn
    have g := h4 (fun q q1 q2 => by
      have z := hn q q1 (by omega)
      rw [uZ_ne (by omega)] at z
      exact z)
    have g2 := hn (es.foldl uC c00).rn h0 (by omega)
    rw [uZ_eq, f3] at g2
    exact g.on hS hk hd (cn (by rw [show mz.e35.rt = (es.foldl uC c00).rn from h2]; exact g2))
  · rw [fz] at hf
    have c3 : (e3.foldl uC (e2.foldl uC (es.foldl uC c00))).fp.1 = 0 := fo_fp0 (es := [(0, p, 0 + m + 1, 0)]) hf
    have c2 := fo_fp0 c3
    have c1 := fo_fp0 c2
    have m0 := uC0_m hf
    have o := h5 c1
    rw [rz]
    refine ⟨by have := ef c2; omega, fun q q1 q2 => ?_⟩
    rw [dz]
    by_cases z : q = mz.rt
    · rw [z, uZ_eq]; show mw.n + 1 ≤ 120; omega
    · rw [uZ_ne z]; exact o.2 q q1 (by omega)
  · rw [rz] at q2
    rw [dz, rz2]
    have rp : ((es ++ e2 ++ e3 ++ [(0, p, 0 + m + 1, 0)]).foldl uC c00).rp = (e2.foldl uC (es.foldl uC c00)).rp := by rw [fz, q0.2.1, b3.2]
    rw [rp]
    by_cases z : q = (es.foldl uC c00).rn
    · subst z
      rw [if_pos q6] at ed op
      rw [← h2, uZ_eq, uZ_eq, h2, uZ_eq, f3, ep, ← ed]
      have h7 := rx.2.1.1 d t35
      rw [fz, q0.2.2.1] at h7
      exact CDM.of g1 e35 ct op.2.2.2.1 h7 k8 hI hw0 ha hp.1 (by rw [ed]; exact (hp.2.1 _ q1 (by omega)).2.1) (by rw [ed]; exact hp.ob q1 (by omega))
    · rw [← h2] at z
      rw [uZ_ne z, uZ_ne z, uZ_ne (by rw [← h2]; exact z), eq q (by rw [← h2] at q2 ⊢; omega)]
      refine (h6 q q1 (by rw [← h2] at q2 ⊢; omega) q6).csm (kc q q1 (by omega) (fun w => ?_))
      rw [ed] at w
      have w2 := hp.2.2 q _ q1 (by omega) (by split <;> omega) (by split <;> omega) w
      rw [← h2] at w2 q2
      split at w2 <;> omega
end TLCS
def CDS (σ : MS) (e : Nat) (q n : Int) (V : Int → It) (fs N P : Int) (f : Int → Int) : Prop := ((σ.2.1 6 e = n ∧ σ.2.1 7 e = N ∧ σ.2.1 9 e = fs ∧ σ.2.1 10 e = 1) ∧ (P ≤ 4 → σ.2.1 8 e = P)) ∧ (rwF σ 11 e 0 = q ∧ rwF σ 12 e 0 = -1 ∧ rwF σ 13 e 0 = 0 ∧ rwF σ 14 e 0 = N ∧ ∀ m, 0 ≤ m → m < N → rwF σ 15 e m = m) ∧ (∃ W, vW W = V ∧ BRW W n ∧ ∀ k, 0 ≤ k → k < n → cdW σ e k = stI f (nnI N (W k)))
section FRTU
variable {Sj : Nat → Prop} {E : Int → Nat} {T T0 T2 : CT} {σ σ0 τ s0 s1 : MS} {a c e x : Nat} {i u v : Int} {m : MK} {q n fs N P : Int} {V : Int → It} {f : Int → Int}
theorem FRT.cl (h : FRT Sj E T0 σ0 T σ) (hI : INJ Sj T σ) (hp : SPX Sj E T σ a) (hw : WT T σ) (ha : OB T a 5) (op : OPM σ s0 a c i) (hi : 0 ≤ i ∧ i < 7) (hw0 : WT T s0) (fg : FG T (fzg s0) T2 s1 a) (hw1 : WT T2 s1) (ct : CLT s1 τ c u v) : INJ Sj T2 τ ∧ SPX Sj E T2 τ a ∧ FRT Sj E T0 σ0 T2 τ ∧ c = E i ∧ ∀ e, Sj e → OB T e 1 → e ≠ c → CSM σ τ e := by
  obtain ⟨o1, o2, o3, o4, o5⟩ := h.og hI hp hw ha op hi hw0 fg
  have sc : Sj c := by rw [o4]; exact (o2.2.1 i hi.1 hi.2).2.1
  have oc : OB T2 c 1 := by rw [o4]; exact o2.ob hi.1 hi.2
  have ha2 : OB T2 a 5 := fg.1.ob ha
  have ob2 : ∀ e, OB T e 1 → OB T2 e 1 := fun e oe => fg.1.ob oe
  have tc : (T2 c).1 = 31 := by rw [o4]; exact (o2.2.1 i hi.1 hi.2).2.2
  refine ⟨ct.inj o1, o2.mv hw1 ha2 GT.rfl (ct.f 34 a (by decide)) (fun x hx => ct.r hw1 oc hx), o3.on GT.rfl (fun e se te => ct.csm o1 sc oc se ⟨by omega, by rw [te]; rfl, by omega⟩ (fun q => by rw [q] at te; omega)) (fun x hx => ct.r hw1 oc hx) (ct.rnr o1 sc oc) (ct.tbr o1 sc oc) (fun e se oe nz => ct.csm o1 sc oc se oe (fun q => nz i hi.1 hi.2 (q.trans o4))), o4, fun e se oe ne => (o5 e se oe ne).trans (ct.csm o1 sc oc se (ob2 e oe) ne)⟩
def TRT (T : CT) (σ τ : MS) : Prop := ∀ x, ((T x).1 = 1 ∨ (T x).1 = 11 ∨ (T x).1 = 13 ∨ (T x).1 = 4 ∨ (T x).1 = 5) → τ.2.1 (1000 + x) = σ.2.1 (1000 + x)
theorem TRT.rfl : TRT T σ σ := fun _ _ => Eq.refl _
theorem TRT.trans (h : TRT T σ τ) (g : TRT T τ s1) : TRT T σ s1 := fun x hx => (g x hx).trans (h x hx)
theorem TRT.pt {k : Nat} {z w : Int} (h : TRT T σ τ) (hk : k < 1000) : TRT T σ (sA k z w τ) := fun x hx => by rw [sA_k (by omega)]; exact h x hx
theorem TRT.pq {p : Prop} [Decidable p] {z w : Int} {t : Nat} (h : TRT T σ τ) (e : s1 = if p then sA (1000 + x) z w τ else τ) (hx : (T x).1 = t) (ht : t ≠ 1 ∧ t ≠ 11 ∧ t ≠ 13 ∧ t ≠ 4 ∧ t ≠ 5) : TRT T σ s1 := fun y hy => by
  rw [e]
  by_cases c : p
  · rw [if_pos c, sA_k (fun q => by have e2 : y = x := by omega
                                    rw [e2] at hy; omega)]
    exact h y hy
  · rw [if_neg c]; exact h y hy
theorem rn_in (hw : WT T σ) (tr : TRT T σ τ) (k15 : ∀ x : Nat, (T x).1 = 15 → τ.2.1 (1000 + x) = σ.2.1 (1000 + x)) {f b : Nat} (hf : f ∈ RN59) (tb : (T b).1 = 37) : τ.2.1 (1000 + adN σ f b) = σ.2.1 (1000 + adN σ f b) := by
  have ob : OB T b 7 := ⟨by omega, by rw [tb]; exact Eq.refl _, by omega⟩
  simp only [List.mem_cons, List.not_mem_nil, or_false] at hf
  rcases hf with e | e | e | e | e | e <;> subst e
  · exact k15 _ ((ad_ex (Q := fun x => AR T x 15 9 9) (wf_59 hw ob)).2).1
  · exact tr _ (Or.inl ((ad_ex (Q := fun x => AR T x 1 9 9) (wf_60 hw ob)).2).1)
  · have z := (ad_ex (Q := fun x => (T x).2 = 9 ∧ ((T b).1 = 57 → (T x).1 = 14) ∧ ((T b).1 ≠ 57 → (T x).1 = 1)) (wf_61 hw ob)).2
    exact tr _ (Or.inl (z.2.2 (by omega)))
  · exact tr _ (Or.inl ((ad_ex (Q := fun x => AR T x 1 108 108) (wf_62 hw ob)).2).1)
  · exact tr _ (Or.inl ((ad_ex (Q := fun x => AR T x 1 1728 1728) (wf_63 hw ob)).2).1)
  · exact tr _ (Or.inl ((ad_ex (Q := fun x => AR T x 1 200 200) (wf_64 hw ob)).2).1)
theorem FRT.in (hI : INJ Sj T σ) (hp : SPX Sj E T σ a) (hw : WT T σ) (ha : OB T a 5) (kf : ∀ n (b : Nat), n < 200 → n ∉ [38, 42, 43, 44, 45, 84, 85, 86, 87] → τ.2.1 n b = σ.2.1 n b) (tr : TRT T σ τ) (k15 : ∀ x : Nat, (T x).1 = 15 → τ.2.1 (1000 + x) = σ.2.1 (1000 + x)) : INJ Sj T τ ∧ SPX Sj E T τ a ∧ FRT Sj E T σ T τ := by
  have kr : ∀ x, (T x).1 = 4 ∨ (T x).1 = 5 → τ.2.1 (1000 + x) = σ.2.1 (1000 + x) := fun x hx => tr x (by omega)
  refine ⟨hI.keep (fun f b hf => kf f b (by simp only [List.mem_cons, List.not_mem_nil, or_false] at hf; omega) (by
    simp only [List.mem_cons, List.not_mem_nil, or_false] at hf
    simp only [List.mem_cons, List.not_mem_nil, or_false]
    omega)), hp.mv hw ha GT.rfl (kf 34 a (by decide) (by decide)) kr, (FRT.rfl hI).on GT.rfl (fun e se te => ⟨fun f f0 f1 => kf f e (by omega) (by simp only [List.mem_cons, List.not_mem_nil, or_false]; omega), fun f hf => tr _ ?_⟩) kr (fun f b hf sb tb => ⟨kf f b (by have := (rn_af hf tb).1; omega) (by have := (rn_af hf tb).1; simp only [List.mem_cons, List.not_mem_nil, or_false]; omega), rn_in hw tr k15 hf tb⟩) ⟨TBR.of0 hI, fun f b hf _ _ => Or.inl (kf f b (by simp only [List.mem_cons, List.not_mem_nil, or_false] at hf; omega) (by
    simp only [List.mem_cons, List.not_mem_nil, or_false] at hf
    simp only [List.mem_cons, List.not_mem_nil, or_false]
    omega)), fun x hx _ => tr x (Or.inl hx)⟩ (fun e se oe _ => ⟨fun f f0 f1 => kf f e (by omega) (by simp only [List.mem_cons, List.not_mem_nil, or_false]; omega), fun f hf => tr _ (by have z := af6_k hw oe f hf; omega)⟩)⟩
  have z := af6_k hw (show OB T e 1 from ⟨by omega, by rw [te]; rfl, by omega⟩) f hf
  omega
theorem ecl_ob (hp : SPX Sj E T σ a) (h : x ∈ ECL σ E) : ∃ q, 0 ≤ q ∧ q < 7 ∧ x = adN σ 5 (E q) := by
  simp only [List.mem_cons, List.not_mem_nil, or_false] at h
  rcases h with w | w | w | w | w | w | w
  · exact ⟨0, by decide, by decide, w⟩
  · exact ⟨1, by decide, by decide, w⟩
  · exact ⟨2, by decide, by decide, w⟩
  · exact ⟨3, by decide, by decide, w⟩
  · exact ⟨4, by decide, by decide, w⟩
  · exact ⟨5, by decide, by decide, w⟩
  · exact ⟨6, by decide, by decide, w⟩
theorem FRT.st (h : FRT Sj E T0 σ0 T σ) (hI : INJ Sj T σ) (hp : SPX Sj E T σ a) (hw : WT T σ) (ha : OB T a 5) (ch : CHX [(43, a), (44, a)] (ECL σ E) [] σ τ) : INJ Sj T τ ∧ SPX Sj E T τ a ∧ FRT Sj E T0 σ0 T τ := by
  have kr : ∀ x, (T x).1 = 4 ∨ (T x).1 = 5 → τ.2.1 (1000 + x) = σ.2.1 (1000 + x) := fun x hx => ch.r (fun w => by
    obtain ⟨q, q0, q1, q2⟩ := ecl_ob hp w
    exact r45 hw hx (f := 5) (by decide) (hp.ob q0 q1) q2)
  have kf : ∀ n (b : Nat), n < 1000 → n ≠ 43 → n ≠ 44 → τ.2.1 n b = σ.2.1 n b := fun n b hn h3 h4 => ch.f hn (by simp only [List.mem_cons, List.not_mem_nil, or_false, Prod.mk.injEq]; omega)
  refine ⟨hI.keep (fun f b hf => kf f b (by simp only [List.mem_cons, List.not_mem_nil, or_false] at hf; omega) (by
    simp only [List.mem_cons, List.not_mem_nil, or_false] at hf; omega) (by
    simp only [List.mem_cons, List.not_mem_nil, or_false] at hf; omega)), hp.mv hw ha GT.rfl (kf 34 a (by decide) (by decide) (by decide)) kr, h.on GT.rfl (fun e se te => ⟨fun f f0 f1 => kf f e (by omega) (by omega) (by omega), fun f hf => ch.r (fun w => ?_)⟩) kr (RNR.chx hI ch (fun p hp => by
    simp only [List.mem_cons, List.not_mem_nil, or_false] at hp
    rcases hp with rfl | rfl <;> simp) (fun x hx => by
    obtain ⟨q, q0, q1, q2⟩ := ecl_ob hp hx
    exact ⟨5, E q, by decide, Or.inl (by decide), (hp.2.1 q q0 q1).2.1, hp.ob q0 q1, q2⟩)) (TBR.chx hI ch (fun p hp => by
      simp only [List.mem_cons, List.not_mem_nil, or_false] at hp
      rcases hp with rfl | rfl <;> simp) (fun x hx => by
    obtain ⟨q, q0, q1, q2⟩ := ecl_ob hp hx
    exact ⟨5, E q, by decide, by decide, (hp.2.1 q q0 q1).2.1, hp.ob q0 q1, q2⟩)) (fun e se oe nz => ⟨fun f f0 f1 => kf f e (by omega) (by omega) (by omega), fun f hf => ch.r (fun w => by
    obtain ⟨q, q0, q1, q2⟩ := ecl_ob hp w
    have fa : f ∈ AFL ∧ cls f = 1 := by
      simp only [List.mem_cons, List.not_mem_nil, or_false] at hf
      rcases hf with rfl | rfl | rfl | rfl | rfl | rfl <;> exact ⟨by decide, Eq.refl _⟩
    exact hI.ne (g := 5) se (hp.2.1 q q0 q1).2.1 (show OB T e (cls f) by rw [fa.2]; exact oe) (hp.ob q0 q1) fa.1 (by decide) (Or.inr (nz q q0 q1)) q2)⟩)⟩
  obtain ⟨q, q0, q1, q2⟩ := ecl_ob hp w
  have fa : f ∈ AFL ∧ cls f = 1 := by
    simp only [List.mem_cons, List.not_mem_nil, or_false] at hf
    rcases hf with rfl | rfl | rfl | rfl | rfl | rfl <;> exact ⟨by decide, Eq.refl _⟩
  have z := hp.2.1 q q0 q1
  exact hI.ne (g := 5) se z.2.1 (show OB T e (cls f) by rw [fa.2]; exact ⟨by omega, by rw [te]; rfl, by omega⟩) (hp.ob q0 q1) fa.1 (by decide) (Or.inr (fun w => by rw [w] at te; omega)) q2
theorem CDS.of (h : CDM σ (E q) q n V fs N P) (hn : n ≤ 120) (hI : INJ Sj T σ) (hp : SPX Sj E T σ a) (q0 : 0 ≤ q) (q1 : q < 7) (ch : CHX [(43, a), (44, a)] (ECL σ E) [] σ τ) (cw : ∀ y, cdW τ (E q) y = stI f (cdW σ (E q) y)) : CDS τ (E q) q n V fs N P f := by
  have kf : ∀ n (b : Nat), n < 1000 → n ≠ 43 → n ≠ 44 → τ.2.1 n b = σ.2.1 n b := fun n b hn h3 h4 => ch.f hn (by simp only [List.mem_cons, List.not_mem_nil, or_false, Prod.mk.injEq]; omega)
  have kw : ∀ g, g ∈ [11, 12, 13, 14, 15] → rwF τ g (E q) = rwF σ g (E q) := fun g hg => by
    have ga : g ∈ AFL ∧ cls g = 1 ∧ g ≠ 5 ∧ g < 1000 ∧ g ≠ 43 ∧ g ≠ 44 := by
      simp only [List.mem_cons, List.not_mem_nil, or_false] at hg
      rcases hg with rfl | rfl | rfl | rfl | rfl <;> exact ⟨by decide, rfl, by decide, by decide, by decide, by decide⟩
    unfold rwF
    rw [show adN τ g (E q) = adN σ g (E q) by unfold adN; rw [kf g (E q) ga.2.2.2.1 ga.2.2.2.2.1 ga.2.2.2.2.2]]
    refine ch.r (fun w => ?_)
    obtain ⟨p, p0, p1, p2⟩ := ecl_ob hp w
    exact hI.ne (g := 5) (hp.2.1 q q0 q1).2.1 (hp.2.1 p p0 p1).2.1 (show OB T (E q) (cls g) by rw [ga.2.1]; exact hp.ob q0 q1) (hp.ob p0 p1) ga.1 (by decide) (Or.inl ga.2.2.1) p2
  obtain ⟨h1, h2, h3⟩ := h
  obtain ⟨W, w1, w3, w2⟩ := h3 hn
  unfold CDS
  rw [kf 6 _ (by decide) (by decide) (by decide), kf 7 _ (by decide) (by decide) (by decide), kf 8 _ (by decide) (by decide) (by decide), kf 9 _ (by decide) (by decide) (by decide), kf 10 _ (by decide) (by decide) (by decide), kw 11 (by decide), kw 12 (by decide), kw 13 (by decide), kw 14 (by decide), kw 15 (by decide)]
  exact ⟨h1, h2, W, w1, w3, fun k k0 k1 => by rw [cw k, w2 k k0 k1]⟩
theorem SPX.spe (h : SPX Sj E T σ a) : SPE T σ a E := fun q q0 q1 => ⟨(h.2.1 q q0 q1).1, (h.2.1 q q0 q1).2.2⟩
theorem SPX.eap (h : SPX Sj E T σ a) (hI : INJ Sj T σ) : EAP σ E := fun p q p0 p1 q0 q1 e => h.2.2 p q p0 p1 q0 q1 (hI.2 5 5 (E p) (E q) (by decide) (by decide) (h.2.1 p p0 p1).2.1 (h.2.1 q q0 q1).2.1 (h.ob p0 p1) (h.ob q0 q1) e).2
end FRTU
def TOM (Sj : Nat → Prop) (E : Int → Nat) (nm : Int → Int64 → Int) (z0 : MK) (T0 : CT) (σ0 : MS) (T : CT) (σ : MS) (a : Nat) (S : Int → Int) (v : Int) : Prop := INJ Sj T σ ∧ SPX Sj E T σ a ∧ FRT Sj E T0 σ0 T σ ∧ (v = 1 → ∃ (i : Nat) (es : List EW) (N : Int) (mz : MK) (Pf : Int → List EW) (f : Int → Int), (TR9 S i N es ∧ ckd (tkS S i) = 264 ∧ SB S) ∧ ((es.foldl uC c00).fp.1 = 0 ∧ 0 ≤ (es.foldl uC c00).rn ∧ (es.foldl uC c00).rn ≤ 6 ∧ σ.2.1 38 a = (es.foldl uC c00).rn) ∧ PFX es Pf ∧ ((∀ q, 0 ≤ q → q < (es.foldl uC c00).rn → NMA nm q ((Pf q).foldl uC c00)) → TXW S nm rnQ tb1 z0 i N mz) ∧ RFC (es.foldl uC c00) f ∧ ∀ q, 0 ≤ q → q < (es.foldl uC c00).rn → (mz.dn q).1 ≤ 120 ∧ CDS σ (E q) q (mz.dn q).1 (mz.dn q).2 (mz.fr q) ((Pf q).foldl uC c00).nn ((es.foldl uC c00).rp q) f)
def TLZ (Sj : Nat → Prop) (E : Int → Nat) (nm : Int → Int64 → Int) (z0 : MK) (T0 : CT) (σ0 : MS) (T : CT) (σ : MS) (a : Nat) (S : Int → Int) (n : Nat) : Prop := (INJ Sj T σ ∧ SPX Sj E T σ a ∧ FRT Sj E T0 σ0 T σ) ∧ ∃ (i : Nat) (es : List EW) (N : Int) (mz : MK) (Pf : Int → List EW), TR9 S i N es ∧ RD0 σ a S n i (es.foldl uC c00) ∧ ckd (tkS S i) = 264 ∧ TLC Sj E nm z0 T σ a S i es N mz Pf
end
