/-! one road of the reader: what was used up, what was made, where the automaton stands -/
def PRS (k : Nat) (v : Int) (σ τ : MS) : Prop := (v = 1 → ∀ q, GOS [k] σ q [] τ q []) ∧ (v = 0 → ∀ q, GOF [k] σ q τ)
def EXS (σ τ : MS) : Prop := RDY τ ∧ PBC 2 σ τ ∧ GTm τ ∧ AC σ τ ∧ τ.1 28 = σ.1 28
theorem RDY.of {n : Int} {σ τ : MS} (h : RDY σ) (e : τ.1 25 = σ.1 25 ∧ τ.1 30 = σ.1 30) (t : TOK τ) (c : PBC n σ τ) (hn : 0 ≤ n) : RDY τ := by
  unfold RDY at *
  unfold PBC at c
  refine ⟨t, ?_⟩
  obtain ⟨-, h⟩ := h
  omega
theorem PBC.adv {σ τ : MS} (f : Fr [19, 20, 22, 23] [] [24] σ τ) (h0 : σ.1 19 < σ.1 20) (p : σ.1 20 ≤ τ.1 19) : PBC 2 σ τ := by
  unfold PBC
  rw [f.1 34 (by decide), f.1 32 (by decide), f.1 31 (by decide), f.1 33 (by decide)]
  omega
def TRm (k0 : Nat) (n : Int) (σ : MS) (ks : List Nat) (τ : MS) : Prop := PBF σ τ ∧ PBC n σ τ ∧ RDY τ ∧ AC σ τ ∧ ∀ q, GOS [k0] σ q ks τ q []
section TRS
variable {k0 k : Nat} {n : Int} {σ τ υ : MS} {rest new kk : List Nat}
theorem TRm.start (hrd : RDY σ) (hnn : NN σ) : TRm k0 0 σ [k0] σ := ⟨PBF.nop hnn (Fr.rfl : Fr [] [] [] σ σ) (by decide) (by decide) (by decide), PBC.nop (Fr.rfl : Fr [] [] [] σ σ) (by decide), hrd, AC.nil rfl, fun _ => GOS.nop rfl rfl⟩
theorem TRm.h30 (t : TRm k0 n σ kk τ) : 0 ≤ σ.1 30 := by
  have a := t.1.2.2.2.2.2.2.2
  have b := t.2.2.1.2.2.1
  omega
theorem TRm.nn (t : TRm k0 n σ kk τ) : NN τ := t.1.2.2.1
theorem TRm.nxt (t : TRm k0 n σ (k :: rest) τ) (g : ∀ q, GOS [k] τ q new τ q []) : TRm k0 n σ (new ++ rest) τ := ⟨t.1, t.2.1, t.2.2.1, t.2.2.2.1, fun q => (t.2.2.2.2 q).then ((g q).more rest)⟩
theorem TRm.adv (t : TRm k0 n σ (k :: rest) τ) (f : Fr [19, 20, 22, 23] [] [24] τ υ) (tok : TOK υ) (p : τ.1 20 ≤ υ.1 19) (hs : τ.1 22 ≠ 0) (g : ∀ q, GOS [k] τ q new υ q []) : TRm k0 (n + 2) σ (new ++ rest) υ := by
  have h30 := t.h30
  obtain ⟨t1, t2, t3, t4, t5⟩ := t
  have pb : PBF τ υ := PBF.nop t1.2.2.1 f (by decide) (by decide) (by decide)
  have pc : PBC 2 τ υ := PBC.adv f (t3.1.2.1 hs) p
  exact ⟨t1.trans pb, t2.trans pc, RDY.of t3 ⟨pb.2.2.2.2.2.2.1, pb.2.2.2.2.2.2.2⟩ tok pc (by decide), t4.trans t1 (AC.nil (f.1 34 (by decide))) pb h30, fun q => (t5 q).then ((g q).more rest)⟩
theorem TRm.sub (t : TRm k0 n σ (k :: rest) τ) (pb : PBF τ υ) (e : EXS τ υ) (g : ∀ q, GOS [k] τ q [] υ q []) : TRm k0 (n + 2) σ rest υ := by
  have h30 := t.h30
  obtain ⟨t1, t2, t3, t4, t5⟩ := t
  exact ⟨t1.trans pb, t2.trans e.2.1, e.1, t4.trans t1 e.2.2.2.1 pb h30, fun q => (t5 q).then ((g q).more rest)⟩
theorem TRm.keep {ss ks js : List Nat} (t : TRm k0 n σ kk τ) (f : Fr ss ks js τ υ) (hs : ∀ j ∈ [19, 20, 21, 22, 23, 25, 28, 29, 30, 31, 32, 33, 34], j ∉ ss) (hk : ∀ j ∈ [1, 3, 4, 5, 6, 7, 8], j ∉ ks) (hj : 24 ∉ js) (pb : PBF τ υ) (hr : srt υ = srt τ) : TRm k0 n σ kk υ := by
  have h30 := t.h30
  obtain ⟨t1, t2, t3, t4, t5⟩ := t
  have e := fun j h => f.1 j (hs j h)
  have pc : PBC 0 τ υ := PBC.nop f (fun j q => hs j (by revert j q; decide))
  refine ⟨t1.trans pb, by have := t2.trans pc; rw [Int.add_zero] at this; exact this, RDY.of t3 ⟨pb.2.2.2.2.2.2.1, pb.2.2.2.2.2.2.2⟩ ?_ pc (by decide), t4.trans t1 (AC.nil (e 34 (by decide))) pb h30, fun q => (t5 q).last (vw_fr f (fun j q => hs j (by revert j q; decide)) (hk 1 (by decide)) hj) hr⟩
  unfold TOK
  rw [e 19 (by decide), e 20 (by decide), e 21 (by decide), e 22 (by decide), e 23 (by decide)]
  exact t3.1
theorem TRm.nop {ss ks js : List Nat} (t : TRm k0 n σ kk τ) (f : Fr ss ks js τ υ) (hs : ∀ j ∈ [19, 20, 21, 22, 23, 25, 26, 27, 28, 29, 30, 31, 32, 33, 34, 43], j ∉ ss) (hk : ∀ j ∈ [1, 3, 4, 5, 6, 7, 8, 35, 36, 45], j ∉ ks) (hj : 24 ∉ js) (hj2 : ∀ j ∈ [38, 44], j ∉ js) : TRm k0 n σ kk υ :=
  t.keep f (fun j q => hs j (by revert j q; decide)) (fun j q => hk j (by revert j q; decide)) hj (PBF.nop t.nn f (fun j q => hs j (by revert j q; decide)) (fun j q => hk j (by revert j q; decide)) (hj2 38 (by decide))) (srt_fr f (fun j q => hs j (by revert j q; decide)) (fun j q => hk j (by revert j q; decide)) hj2)
theorem TRm.chg (t : TRm k0 n σ (k :: rest) τ) (f : Fr [28] [] [] τ υ) (g : ∀ q, GOS [k] τ q new υ q []) : TRm k0 n σ (new ++ rest) υ := by
  have h30 := t.h30
  obtain ⟨t1, t2, t3, t4, t5⟩ := t
  have pb : PBF τ υ := PBF.nop t1.2.2.1 f (by decide) (by decide) (by decide)
  have pc : PBC 0 τ υ := PBC.nop f (by decide)
  refine ⟨t1.trans pb, by have := t2.trans pc; rw [Int.add_zero] at this; exact this, RDY.of t3 ⟨pb.2.2.2.2.2.2.1, pb.2.2.2.2.2.2.2⟩ ?_ pc (by decide), t4.trans t1 (AC.nil (f.1 34 (by decide))) pb h30, fun q => (t5 q).then ((g q).more rest)⟩
  unfold TOK
  rw [f.1 19 (by decide), f.1 20 (by decide), f.1 21 (by decide), f.1 22 (by decide), f.1 23 (by decide)]
  exact t3.1
theorem TRm.join (t : TRm k0 n σ (51 :: rest) τ) (f : Fr [32, 34, 39, 40] [3, 4, 5, 6, 7, 8] [] τ υ) (e : υ.1 34 = τ.1 34 + 1 ∧ υ.1 32 = τ.1 32 + 1) (o : OFF (PXx τ) τ υ) (a : ACI υ (13 + τ.1 34) (PXx τ)) (hn : 1 ≤ n) (hrd : RDY σ) : TRm k0 (n - 1) σ rest υ := by
  have h30 := t.h30
  obtain ⟨t1, t2, t3, t4, t5⟩ := t
  have pb : PBF τ υ := PBF.put t1.2.2.1 f (by decide) (by decide) (by decide) e.1 o
  have pc : PBC (-1) τ υ := by
    unfold PBC
    rw [f.1 19 (by decide), f.1 31 (by decide), f.1 33 (by decide), e.1, e.2]
    omega
  have pc2 : PBC (n - 1) σ υ := t2.trans pc
  have p2 := t1.trans pb
  refine ⟨p2, pc2, RDY.of hrd ⟨p2.2.2.2.2.2.2.1, p2.2.2.2.2.2.2.2⟩ ?_ pc2 (by omega), t4.trans t1 (AC.one e.1 (by rw [e.1, show 12 + (τ.1 34 + 1) = 13 + τ.1 34 by omega]; exact a)) pb h30, fun q => (t5 q).then ((g51 ⟨?_, ?_, sv_fr f (by decide) (by decide), srt_fr f (by decide) (by decide) (by decide)⟩ : GOS [51] τ q [] υ q []).more rest)⟩
  · unfold TOK
    rw [f.1 19 (by decide), f.1 20 (by decide), f.1 21 (by decide), f.1 22 (by decide), f.1 23 (by decide)]
    exact t3.1
  · unfold tks
    rw [f.1 19 (by decide), f.1 20 (by decide), f.1 22 (by decide), f.1 23 (by decide), f.2.2 24 (by decide)]
  · unfold xs
    rw [f.1 28 (by decide), f.1 29 (by decide), e.1]
theorem TRm.fail (t : TRm k0 n σ (k :: rest) τ) (pb : PBF τ υ) (g : ∀ q, GOF [k] τ q υ) : PBF σ υ ∧ ∀ q, GOF [k0] σ q υ := ⟨t.1.trans pb, fun q => (t.2.2.2.2 q).fail ((g q).more rest)⟩
theorem TRm.exs (t : TRm k0 n σ [] τ) (hn : 2 ≤ n) (g : GTm τ) (e : τ.1 28 = σ.1 28) : EXS σ τ := ⟨t.2.2.1, t.2.1.le hn, g, t.2.2.2.1, e⟩
theorem TRm.prs (t : TRm k0 n σ [] τ) : PRS k0 1 σ τ := ⟨fun _ => t.2.2.2.2, fun q => absurd q (by decide)⟩
theorem TRm.le {m : Int} (t : TRm k0 n σ kk τ) (h : m ≤ n) : TRm k0 m σ kk τ := ⟨t.1, t.2.1.le h, t.2.2⟩
end TRS
theorem PRS.no {k : Nat} {σ τ : MS} (h : ∀ q, GOF [k] σ q τ) : PRS k 0 σ τ := ⟨fun q => absurd q (by decide), fun _ => h⟩
theorem GTm.fr {ss ks js : List Nat} {σ τ : MS} (h : GTm σ) (f : Fr ss ks js σ τ) (hs : ∀ k ∈ [34, 39, 40], k ∉ ss) : GTm τ := by
  unfold GTm
  rw [f.1 34 (hs 34 (by decide)), f.1 39 (hs 39 (by decide)), f.1 40 (hs 40 (by decide))]
  exact h
section TRC
variable {k0 k : Nat} {n m : Int} {σ τ υ : MS} {rest new : List Nat}
theorem TRm.cat (t : TRm k0 n σ (k :: rest) τ) (u : TRm k m τ new υ) : TRm k0 (n + m) σ (new ++ rest) υ := by
  have h30 := t.h30
  obtain ⟨t1, t2, t3, t4, t5⟩ := t
  obtain ⟨u1, u2, u3, u4, u5⟩ := u
  exact ⟨t1.trans u1, t2.trans u2, u3, t4.trans t1 u4 u1 h30, fun q => (t5 q).then ((u5 q).more rest)⟩
end TRC
theorem TRm.needy {k0 k : Nat} {n : Int} {σ τ υ : MS} {rest new : List Nat} (t : TRm k0 n σ (k :: rest) τ) (f : Fr [19, 20, 22, 23, 26, 27] [] [24] τ υ) (tok : TOK υ) (p : τ.1 20 ≤ υ.1 19) (h26 : υ.1 26 = τ.1 26) (hs : τ.1 22 ≠ 0) (g : ∀ q, GOS [k] τ q new υ q []) : TRm k0 (n + 2) σ (new ++ rest) υ := by
  have h30 := t.h30
  obtain ⟨t1, t2, t3, t4, t5⟩ := t
  have pb : PBF τ υ := PBF.of t1.2.2.1 f (by decide) (by decide) (by decide) (FLT.eq h26)
  have pc : PBC 2 τ υ := by
    have h0 := t3.1.2.1 hs
    unfold PBC
    rw [f.1 34 (by decide), f.1 32 (by decide), f.1 31 (by decide), f.1 33 (by decide)]
    omega
  exact ⟨t1.trans pb, t2.trans pc, RDY.of t3 ⟨pb.2.2.2.2.2.2.1, pb.2.2.2.2.2.2.2⟩ tok pc (by decide), t4.trans t1 (AC.nil (f.1 34 (by decide))) pb h30, fun q => (t5 q).then ((g q).more rest)⟩
/-- a name is told, then the next token -/
theorem TRm.nameadv {k0 : Nat} {n : Int} {σ τ α β υ : MS} {rest : List Nat} (t : TRm k0 n σ (1 :: rest) τ) (nw : NMW τ) (pb : PBF τ α) (f1 : Fr [26, 27] [35] [38] τ α) (e1 : α = nmP (τ.2.2 24 0) (τ.1 19) τ) (f2 : Fr [39, 40] [] [] α β) (a : ADVm β υ) (f3 : Fr [19, 20, 22, 23] [] [24] β υ) (tok : TOK υ) (p : β.1 20 ≤ υ.1 19) : TRm k0 (n + 2) σ rest υ := by
  have h30 := t.h30
  obtain ⟨t1, t2, t3, t4, t5⟩ := t
  have pb2 : PBF α β := PBF.nop pb.2.2.1 f2 (by decide) (by decide) (by decide)
  have pb3 : PBF β υ := PBF.nop pb2.2.2.1 f3 (by decide) (by decide) (by decide)
  have pp := (pb.trans pb2).trans pb3
  have f : Fr [19, 20, 22, 23, 26, 27, 39, 40] [35] [24, 38] τ υ := ((Fr.sub f1 (by decide) (by decide) (by decide)).trans (Fr.sub f2 (by decide) (by decide) (by decide))).trans (Fr.sub f3 (by decide) (by decide) (by decide))
  have e20 : β.1 20 = τ.1 20 := (f2.1 20 (by decide)).trans (f1.1 20 (by decide))
  have esv : sv β = sv τ := (sv_fr f2 (by decide) (by decide)).trans (sv_fr f1 (by decide) (by decide))
  have h0 := t3.1.2.1 (by have := nw.1; omega)
  have pc : PBC 2 τ υ := by
    unfold PBC
    rw [f.1 34 (by decide), f.1 32 (by decide), f.1 31 (by decide), f.1 33 (by decide)]
    omega
  have ex : xs β = xs τ := by
    unfold xs
    rw [f2.1 28 (by decide), f2.1 29 (by decide), f2.1 34 (by decide), f1.1 28 (by decide), f1.1 29 (by decide), f1.1 34 (by decide)]
  refine ⟨t1.trans pp, t2.trans pc, RDY.of t3 ⟨pp.2.2.2.2.2.2.1, pp.2.2.2.2.2.2.2⟩ tok pc (by decide), t4.trans t1 (AC.nil (f.1 34 (by decide))) pp h30, fun q => (t5 q).then ((g1w nw (by rw [a.1, esv, e20]) (a.2.1.trans ex) (a.2.2.1.trans esv) (EFF.name ?_)).more rest)⟩
  rw [a.2.2.2, srt_fr f2 (by decide) (by decide) (by decide), e1]

