section TSP
variable {k0 k : Nat} {n m : Int} {σ τ υ : MS} {rest : List Nat} {q : Int → QR} {lg : List EV}
/-- m items are put, m labels at most are new -/
theorem TS.puts (t : TS k0 n σ (k :: rest) τ q lg) (f : Fr [33, 34] [3, 4, 5, 6, 7, 8] [] τ υ) (pb : PBF τ υ) (e : υ.1 34 = τ.1 34 + m) (e33 : τ.1 33 ≤ υ.1 33 ∧ υ.1 33 ≤ τ.1 33 + m) (hn : m ≤ n) (hrd : RDY σ) (g : ∀ {c : Int}, GOS [k] τ (q c) [] υ (q c) []) : TS k0 (n - m) σ rest υ q lg := by
  have pc : PBC (-m) τ υ := by
    unfold PBC
    rw [f.1 19 (by decide), f.1 31 (by decide), f.1 32 (by decide), e]
    omega
  have pc2 : PBC (n - m) σ υ := t.2.1.trans pc
  have p2 := t.1.trans pb
  have hr : RDY υ := RDY.of hrd ⟨p2.2.2.2.2.2.2.1, p2.2.2.2.2.2.2.2⟩ (by
    unfold TOK
    rw [f.1 19 (by decide), f.1 20 (by decide), f.1 21 (by decide), f.1 22 (by decide), f.1 23 (by decide)]
    exact t.2.2.1.1) pc2 (by omega)
  exact t.go0 pb pc hr (TBm.of f (by decide) (by decide) (by decide) (by decide)) g
theorem CHG.put {ss ks js : List Nat} {c : Int} (f : Fr ss ks js τ υ) (hs : ∀ j ∈ [19, 20, 21, 22, 23, 28, 29, 25, 26, 27, 30, 31, 43], j ∉ ss) (hk : ∀ j ∈ [1, 35, 36, 45], j ∉ ks) (hj : ∀ j ∈ [24, 38, 44], j ∉ js) (e : υ.1 34 = c) : CHG τ υ (τ.1 28, τ.1 29, c) := by
  refine ⟨?_, ?_, sv_fr f (hs 21 (by decide)) (hk 1 (by decide)), srt_fr f (fun j q => hs j (by revert j q; decide)) (fun j q => hk j (by revert j q; decide)) (fun j q => hj j (by revert j q; decide))⟩
  · unfold tks
    rw [f.1 19 (hs 19 (by decide)), f.1 20 (hs 20 (by decide)), f.1 22 (hs 22 (by decide)), f.1 23 (hs 23 (by decide)), f.2.2 24 (hj 24 (by decide))]
  · unfold xs
    rw [f.1 28 (hs 28 (by decide)), f.1 29 (hs 29 (by decide)), e]
/-- a block's end, or its begin: openBlocks -/
theorem TS.blk {new : List Nat} (t : TS k0 n σ (k :: rest) τ q lg) (f : Fr [29] [] [] τ υ) (g : ∀ {c : Int}, GOS [k] τ (q c) new υ (q c) []) : TS k0 n σ (new ++ rest) υ q lg := by
  have pb : PBF τ υ := PBF.nop t.nn f (by decide) (by decide) (by decide)
  have pc : PBC 0 τ υ := PBC.nop f (by decide)
  have x := t.go0 pb pc (RDY.of t.2.2.1 ⟨pb.2.2.2.2.2.2.1, pb.2.2.2.2.2.2.2⟩ (by
    unfold TOK
    rw [f.1 19 (by decide), f.1 20 (by decide), f.1 21 (by decide), f.1 22 (by decide), f.1 23 (by decide)]
    exact t.2.2.1.1) pc (by decide)) (TBm.of f (by decide) (by decide) (by decide) (by decide)) g
  rw [Int.add_zero] at x
  exact x
end TSP
/-- a single item that is no label, no jump, no call -/
theorem SGF.one {σ τ : MS} {lg : List EV} (h34 : τ.1 34 = σ.1 34 + 1) (h33 : σ.1 33 ≤ τ.1 33) (o : σ.1 25 = 3 → σ.1 30 < 6 → σ.1 34 < 180 → OKI τ 1 (PXx σ)) (k : τ.2.1 3 (PXx σ) ≠ 8 ∧ τ.2.1 3 (PXx σ) ≠ 9 ∧ τ.2.1 3 (PXx σ) ≠ 10 ∧ τ.2.1 3 (PXx σ) ≠ 13 ∧ τ.2.1 3 (PXx σ) ≠ 14 ∧ τ.2.1 3 (PXx σ) ≠ 15) : SGF σ τ lg := fun a b c _ => by
  have e : PXx σ = 220 * σ.1 30 + σ.1 34 := by unfold PXx; rw [if_pos (by omega)]
  have o2 := o a b (by omega)
  rw [e] at k o2
  refine ⟨fun j x y => ?_, WS.plain h33 (by omega) (fun j x y => ?_)⟩
  · rw [show j = σ.1 34 by omega]; exact o2
  · rw [show j = σ.1 34 by omega]; exact k

