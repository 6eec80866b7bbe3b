/-! a road of the reader above expressions -/
def TS (k0 : Nat) (n : Int) (σ : MS) (ks : List Nat) (τ : MS) (q : Int → QR) (lg : List EV) : Prop := PBF σ τ ∧ PBC n σ τ ∧ RDY τ ∧ TBm σ τ ∧ P2F σ τ lg ∧ ∀ c : Int, GOS [k0] σ (qq c) ks τ (q c) lg
section TSS
variable {k0 k : Nat} {n m : Int} {σ τ υ : MS} {rest new kk : List Nat} {q q2 : Int → QR} {lg l2 : List EV}
theorem TS.start (hrd : RDY σ) (hnn : NN σ) : TS k0 0 σ [k0] σ qq [] := ⟨PBF.nop hnn (Fr.rfl : Fr [] [] [] σ σ) (by decide) (by decide) (by decide), PBC.nop (Fr.rfl : Fr [] [] [] σ σ) (by decide), hrd, ⟨rfl, rfl, rfl, rfl⟩, P2F.nil, fun _ => GOS.nop rfl rfl⟩
theorem TS.nn (t : TS k0 n σ kk τ q lg) : NN τ := t.1.2.2.1
/-- the general step: from τ to υ -/
theorem TS.go (t : TS k0 n σ (k :: rest) τ q lg) (pb : PBF τ υ) (pc : PBC m τ υ) (hr : RDY υ) (tb : TBm τ υ) (p2 : P2F τ υ l2) (g : ∀ {c : Int}, GOS [k] τ (q c) new υ (q2 c) l2) : TS k0 (n + m) σ (new ++ rest) υ q2 (lg ++ l2) := by
  obtain ⟨t1, t2, t3, t4, t5, t6⟩ := t
  exact ⟨t1.trans pb, t2.trans pc, hr, t4.trans tb, t5.cat p2 t1 pb t4, fun c => (t6 c).trans ((g (c := c)).more rest)⟩
theorem TS.go0 (t : TS k0 n σ (k :: rest) τ q lg) (pb : PBF τ υ) (pc : PBC m τ υ) (hr : RDY υ) (tb : TBm τ υ) (g : ∀ {c : Int}, GOS [k] τ (q c) new υ (q2 c) []) : TS k0 (n + m) σ (new ++ rest) υ q2 lg := by
  have x := t.go pb pc hr tb P2F.nil g
  rw [List.append_nil] at x
  exact x
theorem TS.nxt (t : TS k0 n σ (k :: rest) τ q lg) (g : ∀ {c : Int}, GOS [k] τ (q c) new τ (q2 c) []) : TS k0 n σ (new ++ rest) τ q2 lg := by
  have x := t.go0 (PBF.nop t.nn (Fr.rfl : Fr [] [] [] τ τ) (by decide) (by decide) (by decide)) (PBC.nop (Fr.rfl : Fr [] [] [] τ τ) (by decide)) t.2.2.1 ⟨rfl, rfl, rfl, rfl⟩ g
  rw [Int.add_zero] at x
  exact x
theorem TS.adv (t : TS k0 n σ (k :: rest) τ q lg) (f : Fr [19, 20, 22, 23] [] [24] τ υ) (tok : TOK υ) (p : τ.1 20 ≤ υ.1 19) (hs : τ.1 22 ≠ 0) (g : ∀ {c : Int}, GOS [k] τ (q c) new υ (q2 c) []) : TS k0 (n + 2) σ (new ++ rest) υ q2 lg := by
  have pb : PBF τ υ := PBF.nop t.nn f (by decide) (by decide) (by decide)
  have pc : PBC 2 τ υ := PBC.adv f (t.2.2.1.1.2.1 hs) p
  exact t.go0 pb pc (RDY.of t.2.2.1 ⟨pb.2.2.2.2.2.2.1, pb.2.2.2.2.2.2.2⟩ tok pc (by decide)) (TBm.of f (by decide) (by decide) (by decide) (by decide)) g
theorem TS.needy (t : TS k0 n σ (k :: rest) τ q lg) (f : Fr [19, 20, 22, 23, 26, 27] [] [24] τ υ) (tok : TOK υ) (p : τ.1 20 ≤ υ.1 19) (h26 : υ.1 26 = τ.1 26) (hs : τ.1 22 ≠ 0) (g : ∀ {c : Int}, GOS [k] τ (q c) new υ (q2 c) []) : TS k0 (n + 2) σ (new ++ rest) υ q2 lg := by
  have pb : PBF τ υ := PBF.of t.nn f (by decide) (by decide) (by decide) (FLT.eq h26)
  have pc : PBC 2 τ υ := by
    have h0 := t.2.2.1.1.2.1 hs
    unfold PBC
    rw [f.1 34 (by decide), f.1 32 (by decide), f.1 31 (by decide), f.1 33 (by decide)]
    omega
  exact t.go0 pb pc (RDY.of t.2.2.1 ⟨pb.2.2.2.2.2.2.1, pb.2.2.2.2.2.2.2⟩ tok pc (by decide)) (TBm.of f (by decide) (by decide) (by decide) (by decide)) g
/-- an expression behind -/
theorem TS.exp (t : TS k0 n σ (2 :: rest) τ q lg) (f : Fr [19, 20, 22, 23, 26, 27, 28, 32, 34, 39, 40] [3, 4, 5, 6, 7, 8, 35] [24, 38] τ υ) (pb : PBF τ υ) (e : EXS τ υ) (g : ∀ q, GOS [2] τ q [] υ q []) : TS k0 (n + 2) σ rest υ q lg := t.go0 pb e.2.1 e.1 (TBm.of f (by decide) (by decide) (by decide) (by decide)) (g _)
/-- nothing that counts -/
theorem TS.keep {ss ks js : List Nat} (t : TS k0 n σ kk τ q lg) (f : Fr ss ks js τ υ) (hs : ∀ j ∈ [19, 20, 21, 22, 23, 25, 26, 27, 28, 29, 30, 31, 32, 33, 34, 43], j ∉ ss) (hk : ∀ j ∈ [1, 3, 4, 5, 6, 7, 8, 11, 35, 36, 45], j ∉ ks) (hj : 24 ∉ js) (hj4 : ∀ j ∈ [38, 44], j ∉ js) (pb : PBF τ υ) : TS k0 n σ kk υ q lg := by
  have e := fun j h => f.1 j (hs j h)
  have pc : PBC 0 τ υ := PBC.nop f (fun j q => hs j (by revert j q; decide))
  have tb : TBm τ υ := TBm.of f (hs 43 (by decide)) (hk 11 (by decide)) (hk 45 (by decide)) (hj4 44 (by decide))
  obtain ⟨t1, t2, t3, t4, t5, t6⟩ := t
  refine ⟨t1.trans pb, by have := t2.trans pc; rw [Int.add_zero] at this; exact this, RDY.of t3 ⟨pb.2.2.2.2.2.2.1, pb.2.2.2.2.2.2.2⟩ ?_ pc (by decide), t4.trans tb, by have := t5.cat (P2F.nil (τ := υ)) t1 pb t4; rw [List.append_nil] at this; exact this, fun c => (t6 c).last (vw_fr f (fun j q => hs j (by revert j q; decide)) (hk 1 (by decide)) hj) (srt_fr f (fun j q => hs j (by revert j q; decide)) (fun j q => hk j (by revert j q; decide)) hj4)⟩
  unfold TOK
  rw [e 19 (by decide), e 20 (by decide), e 21 (by decide), e 22 (by decide), e 23 (by decide)]
  exact t3.1
theorem TS.fail (t : TS k0 n σ (k :: rest) τ q lg) (pb : PBF τ υ) (g : ∀ {c : Int}, GOF [k] τ (q c) υ) : PBF σ υ ∧ ∀ c : Int, GOF [k0] σ (qq c) υ := ⟨t.1.trans pb, fun c => (t.2.2.2.2.2 c).fail ((g (c := c)).more rest)⟩
end TSS

