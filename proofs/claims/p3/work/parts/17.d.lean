/-! one road of the reader: what was used up, what was made, where the automaton stands -/
def PRS (k : Nat) (v : Int) (σ τ : MS) : Prop := (v = 1 → ∀ q, GOS [k] σ q [] τ q []) ∧ (v = 0 → ∀ q, GOF [k] σ q)
def EXS (σ τ : MS) : Prop := RDY τ ∧ PBC 2 σ τ ∧ GT τ ∧ AC σ τ ∧ τ.1 28 = σ.1 28
theorem RDY.of {n : Int} {σ τ : MS} (h : RDY σ) (e : τ.1 25 = σ.1 25 ∧ τ.1 30 = σ.1 30) (t : (0 ≤ τ.1 19 ∧ τ.1 19 ≤ τ.1 20 ∧ τ.1 20 ≤ τ.1 21 ∧ τ.1 21 ≤ 1200) ∧ (τ.1 22 ≠ 0 → τ.1 19 < τ.1 20) ∧ (0 ≤ τ.1 22 ∧ τ.1 22 ≤ 4) ∧ (-1 ≤ τ.1 23 ∧ τ.1 23 ≤ 9999999)) (c : PBC n σ τ) (hn : 0 ≤ n) : RDY τ := by
  unfold RDY at *
  unfold PBC at c
  refine ⟨t, ?_⟩
  obtain ⟨-, h⟩ := h
  omega
theorem PBC.adv {σ τ : MS} (f : Fr [19, 20, 22, 23] [] [24] σ τ) (h0 : σ.1 19 < σ.1 20) (p : σ.1 20 ≤ τ.1 19) : PBC 2 σ τ := by
  unfold PBC
  rw [f.1 34 (by decide), f.1 32 (by decide), f.1 31 (by decide), f.1 33 (by decide)]
  omega
def TR (k0 : Nat) (n : Int) (σ : MS) (ks : List Nat) (τ : MS) : Prop := PBF σ τ ∧ PBC n σ τ ∧ RDY τ ∧ AC σ τ ∧ ∀ q, GOS [k0] σ q ks τ q []
section TRS
variable {k0 k : Nat} {n : Int} {σ τ υ : MS} {rest new kk : List Nat}
theorem TR.start (hrd : RDY σ) (hnn : NN σ) : TR k0 0 σ [k0] σ := ⟨PBF.nop hnn (Fr.rfl : Fr [] [] [] σ σ) (by decide) (by decide) (by decide), PBC.nop (Fr.rfl : Fr [] [] [] σ σ) (by decide), hrd, AC.nil rfl, fun _ => GOS.nop rfl⟩
theorem TR.h30 (t : TR k0 n σ kk τ) : 0 ≤ σ.1 30 := by
  have a := t.1.2.2.2.2.2.2.2
  have b := t.2.2.1.2.2.1
  omega
theorem TR.nn (t : TR k0 n σ kk τ) : NN τ := t.1.2.2.1
theorem TR.nxt (t : TR k0 n σ (k :: rest) τ) (g : ∀ q, GOS [k] τ q new τ q []) : TR k0 n σ (new ++ rest) τ := ⟨t.1, t.2.1, t.2.2.1, t.2.2.2.1, fun q => (t.2.2.2.2 q).then ((g q).more rest)⟩
theorem TR.adv (t : TR k0 n σ (k :: rest) τ) (f : Fr [19, 20, 22, 23] [] [24] τ υ) (tok : (0 ≤ υ.1 19 ∧ υ.1 19 ≤ υ.1 20 ∧ υ.1 20 ≤ υ.1 21 ∧ υ.1 21 ≤ 1200) ∧ (υ.1 22 ≠ 0 → υ.1 19 < υ.1 20) ∧ (0 ≤ υ.1 22 ∧ υ.1 22 ≤ 4) ∧ (-1 ≤ υ.1 23 ∧ υ.1 23 ≤ 9999999)) (p : τ.1 20 ≤ υ.1 19) (hs : τ.1 22 ≠ 0) (g : ∀ q, GOS [k] τ q new υ q []) : TR k0 (n + 2) σ (new ++ rest) υ := by
  have h30 := t.h30
  obtain ⟨t1, t2, t3, t4, t5⟩ := t
  have pb : PBF τ υ := PBF.nop t1.2.2.1 f (by decide) (by decide) (by decide)
  have pc : PBC 2 τ υ := PBC.adv f (t3.1.2.1 hs) p
  exact ⟨t1.trans pb, t2.trans pc, RDY.of t3 ⟨pb.2.2.2.2.2.2.1, pb.2.2.2.2.2.2.2⟩ tok pc (by decide), t4.trans t1 (AC.nil (f.1 34 (by decide))) pb h30, fun q => (t5 q).then ((g q).more rest)⟩
theorem TR.sub (t : TR k0 n σ (k :: rest) τ) (pb : PBF τ υ) (e : EXS τ υ) (g : ∀ q, GOS [k] τ q [] υ q []) : TR k0 (n + 2) σ rest υ := by
  have h30 := t.h30
  obtain ⟨t1, t2, t3, t4, t5⟩ := t
  exact ⟨t1.trans pb, t2.trans e.2.1, e.1, t4.trans t1 e.2.2.2.1 pb h30, fun q => (t5 q).then ((g q).more rest)⟩
theorem TR.keep {ss ks js : List Nat} (t : TR k0 n σ kk τ) (f : Fr ss ks js τ υ) (hs : ∀ j ∈ [19, 20, 21, 22, 23, 25, 28, 29, 30, 31, 32, 33, 34], j ∉ ss) (hk : ∀ j ∈ [1, 3, 4, 5, 6, 7, 8], j ∉ ks) (hj : 24 ∉ js) (pb : PBF τ υ) : TR k0 n σ kk υ := by
  have h30 := t.h30
  obtain ⟨t1, t2, t3, t4, t5⟩ := t
  have e := fun j h => f.1 j (hs j h)
  have pc : PBC 0 τ υ := PBC.nop f (fun j q => hs j (by revert j q; decide))
  refine ⟨t1.trans pb, by have := t2.trans pc; rw [Int.add_zero] at this; exact this, RDY.of t3 ⟨pb.2.2.2.2.2.2.1, pb.2.2.2.2.2.2.2⟩ ?_ pc (by decide), t4.trans t1 (AC.nil (e 34 (by decide))) pb h30, fun q => (t5 q).last (vw_fr f (fun j q => hs j (by revert j q; decide)) (hk 1 (by decide)) hj)⟩
  rw [e 19 (by decide), e 20 (by decide), e 21 (by decide), e 22 (by decide), e 23 (by decide)]
  exact t3.1
theorem TR.nop {ss ks js : List Nat} (t : TR k0 n σ kk τ) (f : Fr ss ks js τ υ) (hs : ∀ j ∈ [19, 20, 21, 22, 23, 25, 26, 28, 29, 30, 31, 32, 33, 34], j ∉ ss) (hk : ∀ j ∈ [1, 3, 4, 5, 6, 7, 8, 35], j ∉ ks) (hj : 24 ∉ js) (hj2 : 38 ∉ js) : TR k0 n σ kk υ :=
  t.keep f (fun j q => hs j (by revert j q; decide)) (fun j q => hk j (by revert j q; decide)) hj (PBF.nop t.nn f (fun j q => hs j (by revert j q; decide)) (fun j q => hk j (by revert j q; decide)) hj2)
theorem TR.chg (t : TR k0 n σ (k :: rest) τ) (f : Fr [28] [] [] τ υ) (g : ∀ q, GOS [k] τ q new υ q []) : TR k0 n σ (new ++ rest) υ := by
  have h30 := t.h30
  obtain ⟨t1, t2, t3, t4, t5⟩ := t
  have pb : PBF τ υ := PBF.nop t1.2.2.1 f (by decide) (by decide) (by decide)
  have pc : PBC 0 τ υ := PBC.nop f (by decide)
  refine ⟨t1.trans pb, by have := t2.trans pc; rw [Int.add_zero] at this; exact this, RDY.of t3 ⟨pb.2.2.2.2.2.2.1, pb.2.2.2.2.2.2.2⟩ ?_ pc (by decide), t4.trans t1 (AC.nil (f.1 34 (by decide))) pb h30, fun q => (t5 q).then ((g q).more rest)⟩
  rw [f.1 19 (by decide), f.1 20 (by decide), f.1 21 (by decide), f.1 22 (by decide), f.1 23 (by decide)]
  exact t3.1
theorem TR.join (t : TR k0 n σ (51 :: rest) τ) (f : Fr [32, 34, 39, 40] [3, 4, 5, 6, 7, 8] [] τ υ) (e : υ.1 34 = τ.1 34 + 1 ∧ υ.1 32 = τ.1 32 + 1) (o : OFF (PXx τ) τ υ) (a : ACI υ (13 + τ.1 34) (PXx τ)) (hn : 1 ≤ n) (hrd : RDY σ) : TR k0 (n - 1) σ rest υ := by
  have h30 := t.h30
  obtain ⟨t1, t2, t3, t4, t5⟩ := t
  have pb : PBF τ υ := PBF.put t1.2.2.1 f (by decide) (by decide) (by decide) e.1 o
  have pc : PBC (-1) τ υ := by
    unfold PBC
    rw [f.1 19 (by decide), f.1 31 (by decide), f.1 33 (by decide), e.1, e.2]
    omega
  have pc2 : PBC (n - 1) σ υ := t2.trans pc
  have p2 := t1.trans pb
  refine ⟨p2, pc2, RDY.of hrd ⟨p2.2.2.2.2.2.2.1, p2.2.2.2.2.2.2.2⟩ ?_ pc2 (by omega), t4.trans t1 (AC.one e.1 (by rw [e.1, show 12 + (τ.1 34 + 1) = 13 + τ.1 34 by omega]; exact a)) pb h30, fun q => (t5 q).then ((g51 ⟨?_, ?_, sv_fr f (by decide) (by decide)⟩ : GOS [51] τ q [] υ q []).more rest)⟩
  · rw [f.1 19 (by decide), f.1 20 (by decide), f.1 21 (by decide), f.1 22 (by decide), f.1 23 (by decide)]
    exact t3.1
  · unfold tks
    rw [f.1 19 (by decide), f.1 20 (by decide), f.1 22 (by decide), f.1 23 (by decide), f.2.2 24 (by decide)]
  · unfold xs
    rw [f.1 28 (by decide), f.1 29 (by decide), e.1]
theorem TR.fail (t : TR k0 n σ (k :: rest) τ) (pb : PBF τ υ) (g : ∀ q, GOF [k] τ q) : PBF σ υ ∧ ∀ q, GOF [k0] σ q := ⟨t.1.trans pb, fun q => (t.2.2.2.2 q).fail ((g q).more rest)⟩
theorem TR.exs (t : TR k0 n σ [] τ) (hn : 2 ≤ n) (g : GT τ) (e : τ.1 28 = σ.1 28) : EXS σ τ := ⟨t.2.2.1, t.2.1.le hn, g, t.2.2.2.1, e⟩
theorem TR.prs (t : TR k0 n σ [] τ) : PRS k0 1 σ τ := ⟨fun _ => t.2.2.2.2, fun q => absurd q (by decide)⟩
theorem TR.le {m : Int} (t : TR k0 n σ kk τ) (h : m ≤ n) : TR k0 m σ kk τ := ⟨t.1, t.2.1.le h, t.2.2⟩
end TRS
theorem PRS.no {k : Nat} {σ τ : MS} (h : ∀ q, GOF [k] σ q) : PRS k 0 σ τ := ⟨fun q => absurd q (by decide), fun _ => h⟩
theorem GT.fr {ss ks js : List Nat} {σ τ : MS} (h : GT σ) (f : Fr ss ks js σ τ) (hs : ∀ k ∈ [34, 39, 40], k ∉ ss) : GT τ := by
  unfold GT
  rw [f.1 34 (hs 34 (by decide)), f.1 39 (hs 39 (by decide)), f.1 40 (hs 40 (by decide))]
  exact h
section TRC
variable {k0 k : Nat} {n m : Int} {σ τ υ : MS} {rest new : List Nat}
theorem TR.cat (t : TR k0 n σ (k :: rest) τ) (u : TR k m τ new υ) : TR k0 (n + m) σ (new ++ rest) υ := by
  have h30 := t.h30
  obtain ⟨t1, t2, t3, t4, t5⟩ := t
  obtain ⟨u1, u2, u3, u4, u5⟩ := u
  exact ⟨t1.trans u1, t2.trans u2, u3, t4.trans t1 u4 u1 h30, fun q => (t5 q).then ((u5 q).more rest)⟩
end TRC
theorem TR.needy {k0 k : Nat} {n : Int} {σ τ υ : MS} {rest new : List Nat} (t : TR k0 n σ (k :: rest) τ) (f : Fr [19, 20, 22, 23, 26, 27] [] [24] τ υ) (tok : (0 ≤ υ.1 19 ∧ υ.1 19 ≤ υ.1 20 ∧ υ.1 20 ≤ υ.1 21 ∧ υ.1 21 ≤ 1200) ∧ (υ.1 22 ≠ 0 → υ.1 19 < υ.1 20) ∧ (0 ≤ υ.1 22 ∧ υ.1 22 ≤ 4) ∧ (-1 ≤ υ.1 23 ∧ υ.1 23 ≤ 9999999)) (p : τ.1 20 ≤ υ.1 19) (h26 : υ.1 26 = τ.1 26) (hs : τ.1 22 ≠ 0) (g : ∀ q, GOS [k] τ q new υ q []) : TR k0 (n + 2) σ (new ++ rest) υ := by
  have h30 := t.h30
  obtain ⟨t1, t2, t3, t4, t5⟩ := t
  have pb : PBF τ υ := PBF.of t1.2.2.1 f (by decide) (by decide) (by decide) (by rw [h26]; exact id)
  have pc : PBC 2 τ υ := by
    have h0 := t3.1.2.1 hs
    unfold PBC
    rw [f.1 34 (by decide), f.1 32 (by decide), f.1 31 (by decide), f.1 33 (by decide)]
    omega
  exact ⟨t1.trans pb, t2.trans pc, RDY.of t3 ⟨pb.2.2.2.2.2.2.1, pb.2.2.2.2.2.2.2⟩ tok pc (by decide), t4.trans t1 (AC.nil (f.1 34 (by decide))) pb h30, fun q => (t5 q).then ((g q).more rest)⟩

theorem ml12_320 : Cond.methodLink RX12 320 yX12_isName ∈ pWW := pw8 (List.mem_of_getElem? (i := 152) rfl) rfl
theorem ml12_327 : Cond.methodLink RX12 327 yX12_expression ∈ pWW := pw8 (List.mem_of_getElem? (i := 217) rfl) rfl
theorem ml12_330 : Cond.methodLink RX12 330 yX12_need ∈ pWW := pw8 (List.mem_of_getElem? (i := 173) rfl) rfl
theorem ml12_323 : Cond.methodLink RX12 323 yX12_nameOf ∈ pWW := pw8 (List.mem_of_getElem? (i := 185) rfl) rfl
theorem ml12_310 : Cond.methodLink RX12 310 yX12_joins ∈ pWW := pw8 (List.mem_of_getElem? (i := 237) rfl) rfl
theorem dX12_signed_0 : decode cX12_signed 0 = .ok (.aload_n 0, 1) := by decide +kernel
theorem dX12_signed_1 : decode cX12_signed 1 = .ok (.bipush 45, 2) := by decide +kernel
theorem dX12_signed_3 : decode cX12_signed 3 = .ok (.invokevirtual 258, 3) := by decide +kernel
theorem dX12_signed_6 : decode cX12_signed 6 = .ok (.istore_n 1, 1) := by decide +kernel
theorem dX12_signed_7 : decode cX12_signed 7 = .ok (.iload_n 1, 1) := by decide +kernel
theorem dX12_signed_8 : decode cX12_signed 8 = .ok (.ifCond .eq 7, 3) := by decide +kernel
theorem dX12_signed_15 : decode cX12_signed 15 = .ok (.aload_n 0, 1) := by decide +kernel
theorem dX12_signed_16 : decode cX12_signed 16 = .ok (.getfield 226, 3) := by decide +kernel
theorem dX12_signed_19 : decode cX12_signed 19 = .ok (.iconst 3, 1) := by decide +kernel
theorem dX12_signed_20 : decode cX12_signed 20 = .ok (.if_icmp .ne 19, 3) := by decide +kernel
theorem dX12_signed_39 : decode cX12_signed 39 = .ok (.aload_n 0, 1) := by decide +kernel
theorem dX12_signed_40 : decode cX12_signed 40 = .ok (.invokevirtual 320, 3) := by decide +kernel
theorem dX12_signed_43 : decode cX12_signed 43 = .ok (.ifCond .eq 27, 3) := by decide +kernel
theorem dX12_signed_70 : decode cX12_signed 70 = .ok (.aload_n 0, 1) := by decide +kernel
theorem dX12_signed_71 : decode cX12_signed 71 = .ok (.bipush 40, 2) := by decide +kernel
theorem dX12_signed_73 : decode cX12_signed 73 = .ok (.invokevirtual 258, 3) := by decide +kernel
theorem dX12_signed_76 : decode cX12_signed 76 = .ok (.ifCond .eq 25, 3) := by decide +kernel
theorem dX12_signed_101 : decode cX12_signed 101 = .ok (.aload_n 0, 1) := by decide +kernel
theorem dX12_signed_102 : decode cX12_signed 102 = .ok (.invokevirtual 261, 3) := by decide +kernel
theorem dX12_signed_105 : decode cX12_signed 105 = .ok (.ireturn, 1) := by decide +kernel
theorem dX12_signed_79 : decode cX12_signed 79 = .ok (.aload_n 0, 1) := by decide +kernel
theorem dX12_signed_80 : decode cX12_signed 80 = .ok (.invokevirtual 265, 3) := by decide +kernel
theorem dX12_signed_83 : decode cX12_signed 83 = .ok (.aload_n 0, 1) := by decide +kernel
theorem dX12_signed_84 : decode cX12_signed 84 = .ok (.invokevirtual 327, 3) := by decide +kernel
theorem dX12_signed_87 : decode cX12_signed 87 = .ok (.ifCond .eq 12, 3) := by decide +kernel
theorem dX12_signed_99 : decode cX12_signed 99 = .ok (.iconst 0, 1) := by decide +kernel
theorem dX12_signed_100 : decode cX12_signed 100 = .ok (.ireturn, 1) := by decide +kernel
theorem dX12_signed_90 : decode cX12_signed 90 = .ok (.aload_n 0, 1) := by decide +kernel
theorem dX12_signed_91 : decode cX12_signed 91 = .ok (.bipush 41, 2) := by decide +kernel
theorem dX12_signed_93 : decode cX12_signed 93 = .ok (.invokevirtual 330, 3) := by decide +kernel
theorem dX12_signed_96 : decode cX12_signed 96 = .ok (.ifCond .ne 10, 3) := by decide +kernel
theorem dX12_signed_106 : decode cX12_signed 106 = .ok (.iload_n 1, 1) := by decide +kernel
theorem dX12_signed_107 : decode cX12_signed 107 = .ok (.ifCond .eq 18, 3) := by decide +kernel
theorem dX12_signed_125 : decode cX12_signed 125 = .ok (.iconst 1, 1) := by decide +kernel
theorem dX12_signed_126 : decode cX12_signed 126 = .ok (.ireturn, 1) := by decide +kernel
theorem dX12_signed_46 : decode cX12_signed 46 = .ok (.aload_n 0, 1) := by decide +kernel
theorem dX12_signed_47 : decode cX12_signed 47 = .ok (.iconst 2, 1) := by decide +kernel
theorem dX12_signed_48 : decode cX12_signed 48 = .ok (.aload_n 0, 1) := by decide +kernel
theorem dX12_signed_49 : decode cX12_signed 49 = .ok (.aload_n 0, 1) := by decide +kernel
theorem dX12_signed_50 : decode cX12_signed 50 = .ok (.getfield 219, 3) := by decide +kernel
theorem dX12_signed_53 : decode cX12_signed 53 = .ok (.aload_n 0, 1) := by decide +kernel
theorem dX12_signed_54 : decode cX12_signed 54 = .ok (.getfield 216, 3) := by decide +kernel
theorem dX12_signed_57 : decode cX12_signed 57 = .ok (.invokevirtual 323, 3) := by decide +kernel
theorem dX12_signed_60 : decode cX12_signed 60 = .ok (.invokevirtual 301, 3) := by decide +kernel
theorem dX12_signed_63 : decode cX12_signed 63 = .ok (.aload_n 0, 1) := by decide +kernel
theorem dX12_signed_64 : decode cX12_signed 64 = .ok (.invokevirtual 265, 3) := by decide +kernel
theorem dX12_signed_67 : decode cX12_signed 67 = .ok (.goto 39, 3) := by decide +kernel
theorem dX12_signed_23 : decode cX12_signed 23 = .ok (.aload_n 0, 1) := by decide +kernel
theorem dX12_signed_24 : decode cX12_signed 24 = .ok (.iconst 1, 1) := by decide +kernel
theorem dX12_signed_25 : decode cX12_signed 25 = .ok (.aload_n 0, 1) := by decide +kernel
theorem dX12_signed_26 : decode cX12_signed 26 = .ok (.getfield 223, 3) := by decide +kernel
theorem dX12_signed_29 : decode cX12_signed 29 = .ok (.invokevirtual 301, 3) := by decide +kernel
theorem dX12_signed_32 : decode cX12_signed 32 = .ok (.aload_n 0, 1) := by decide +kernel
theorem dX12_signed_33 : decode cX12_signed 33 = .ok (.invokevirtual 265, 3) := by decide +kernel
theorem dX12_signed_36 : decode cX12_signed 36 = .ok (.goto 70, 3) := by decide +kernel
theorem dX12_signed_11 : decode cX12_signed 11 = .ok (.aload_n 0, 1) := by decide +kernel
theorem dX12_signed_12 : decode cX12_signed 12 = .ok (.invokevirtual 265, 3) := by decide +kernel
theorem dX12_signed_110 : decode cX12_signed 110 = .ok (.aload_n 0, 1) := by decide +kernel
theorem dX12_signed_111 : decode cX12_signed 111 = .ok (.iconst 2, 1) := by decide +kernel
theorem dX12_signed_112 : decode cX12_signed 112 = .ok (.iconst 1, 1) := by decide +kernel
theorem dX12_signed_113 : decode cX12_signed 113 = .ok (.iconst 0, 1) := by decide +kernel
theorem dX12_signed_114 : decode cX12_signed 114 = .ok (.aload_n 0, 1) := by decide +kernel
theorem dX12_signed_115 : decode cX12_signed 115 = .ok (.getfield 285, 3) := by decide +kernel
theorem dX12_signed_118 : decode cX12_signed 118 = .ok (.aload_n 0, 1) := by decide +kernel
theorem dX12_signed_119 : decode cX12_signed 119 = .ok (.getfield 288, 3) := by decide +kernel
theorem dX12_signed_122 : decode cX12_signed 122 = .ok (.invokevirtual 310, 3) := by decide +kernel
set_option maxHeartbeats 4000000 in
set_option maxRecDepth 20000 in
theorem c_X12_signed (d : Nat) {b : Nat} {σ : MS} {lv : Nat} (hce : ∀ (d : Nat) {b : Nat} {σ : MS} (hR : RG σ) (hrd : RDY σ) (hnn : NN σ) (h28 : σ.1 28 = 8 - (lv : Int)), Tm (d + 4 * lv + 8) m_X12_expression 0 b σ [(0, .ref b)] [] (fun ro σ2 => ∃ v : Int, ro = some (.int (iI v)) ∧ ((v = 0 ∨ v = 1)) ∧ (Fr [19, 20, 22, 23, 26, 27, 28, 32, 34, 39, 40] [3, 4, 5, 6, 7, 8, 35] [24, 38] σ σ2) ∧ (RG σ2) ∧ (PBF σ σ2) ∧ (v = 1 → EXS σ σ2) ∧ (PRS 2 v σ σ2))) (hR : RG σ) (hrd : RDY σ) (hnn : NN σ) (h28 : σ.1 28 = 8 - (lv : Int)) : Tm (d + 4 * lv + 4 * lv + 9) m_X12_signed 0 b σ [(0, .ref b)] [] (fun ro σ2 => ∃ v : Int, ro = some (.int (iI v)) ∧ ((v = 0 ∨ v = 1)) ∧ (Fr [19, 20, 22, 23, 26, 27, 28, 32, 34, 39, 40] [3, 4, 5, 6, 7, 8, 35] [24, 38] σ σ2) ∧ (RG σ2) ∧ (PBF σ σ2) ∧ (v = 1 → EXS σ σ2) ∧ (PRS 0 v σ σ2)) := by
  have tr0 : TR 0 0 σ [0] σ := TR.start hrd hnn
  refine tm_aload_n dX12_signed_0 rfl 0 rfl ?_
  refine tm_bipush dX12_signed_1 (by decide) ?_
  refine tm_callV (M' := m_X12_isSign) (As := [.int (iI 45)]) (rest := []) dX12_signed_3 ok_X12_isSign im_X12_isSign se_X12_isSign ml12_258 np_X12_isSign rfl rfl (Nat.le_of_ble_eq_true rfl) (Nat.le_of_ble_eq_true rfl) rfl (c_X12_isSign (d + 4 * lv + 7) (σ := σ) (c := 45) hR (by omega)) (fun r1 σ2 hp => ?_)
  obtain ⟨v3, rfl, rfl, f4, f5⟩ := hp
  show Tm _ _ 6 b σ [(0, .ref b)] [.int (iI v3)] _
  have i45 := f5
  refine tm_istore_n (L' := [(1, .int (iI v3)), (0, .ref b)]) dX12_signed_6 rfl (by decide) rfl ?_
  refine tm_iload_n dX12_signed_7 rfl 0 rfl ?_
  refine tm_if_eq (tgt := 15) dX12_signed_8 (by decide) ⟨by omega, by omega⟩ (fun h6 => ?_) (fun h6 => ?_)
  · have tr1 := tr0.nxt (fun q => g0n (fun z => absurd (i45.mpr z) (by omega)))
    refine tm_aload_n dX12_signed_15 rfl 1 rfl ?_
    refine tm_getS (k := 22) (t := σ.1 22) dX12_signed_16 (by decide) fl12_226 rfl (rfl) ?_
    have g7 := RG.s hR 22
    refine tm_iconst dX12_signed_19 ?_
    refine tm_icmp_ne (tgt := 39) dX12_signed_20 (by decide) ⟨by omega, by omega⟩ ⟨by decide, by decide⟩ (fun h8 => ?_) (fun h8 => ?_)
    · refine tm_aload_n dX12_signed_39 rfl 1 rfl ?_
      refine tm_callV (M' := m_X12_isName) (As := []) (rest := []) dX12_signed_40 ok_X12_isName im_X12_isName se_X12_isName ml12_320 np_X12_isName rfl rfl (Nat.le_of_ble_eq_true rfl) (Nat.le_of_ble_eq_true rfl) rfl (c_X12_isName (d + 4 * lv + 7) (σ := σ)  hR) (fun r9 σ10 hp => ?_)
      obtain ⟨v11, rfl, rfl, f12, f13⟩ := hp
      show Tm _ _ 43 b σ [(1, .int (iI v3)), (0, .ref b)] [.int (iI v11)] _
      have inm := f13
      refine tm_if_eq (tgt := 70) dX12_signed_43 (by decide) ⟨by omega, by omega⟩ (fun h14 => ?_) (fun h14 => ?_)
      · refine tm_aload_n dX12_signed_70 rfl 1 rfl ?_
        refine tm_bipush dX12_signed_71 (by decide) ?_
        refine tm_callV (M' := m_X12_isSign) (As := [.int (iI 40)]) (rest := []) dX12_signed_73 ok_X12_isSign im_X12_isSign se_X12_isSign ml12_258 np_X12_isSign rfl rfl (Nat.le_of_ble_eq_true rfl) (Nat.le_of_ble_eq_true rfl) rfl (c_X12_isSign (d + 4 * lv + 7) (σ := σ) (c := 40) hR (by omega)) (fun r15 σ16 hp => ?_)
        obtain ⟨v17, rfl, rfl, f18, f19⟩ := hp
        show Tm _ _ 76 b σ [(1, .int (iI v3)), (0, .ref b)] [.int (iI v17)] _
        have i40 := f19
        refine tm_if_eq (tgt := 101) dX12_signed_76 (by decide) ⟨by omega, by omega⟩ (fun h20 => ?_) (fun h20 => ?_)
        · refine tm_aload_n dX12_signed_101 rfl 1 rfl ?_
          refine tm_callV (M' := m_X12_wrong) (As := []) (rest := []) dX12_signed_102 ok_X12_wrong im_X12_wrong se_X12_wrong ml12_261 np_X12_wrong rfl rfl (Nat.le_of_ble_eq_true rfl) (Nat.le_of_ble_eq_true rfl) rfl (c_X12_wrong (d + 4 * lv + 7) (σ := σ)  hR) (fun r21 σ22 hp => ?_)
          obtain ⟨v23, rfl, f24, f25, f26, f27, f28, f29⟩ := hp
          show Tm _ _ 105 b σ22 [(1, .int (iI v3)), (0, .ref b)] [.int (iI v23)] _
          exact tm_zret (v := v23) rfl (by omega) dX12_signed_105 (⟨_, rfl, by omega, (Fr.rfl.trans (Fr.sub f25 (by decide) (by decide) (by decide))), f26, (tr1.fail (PBF.of tr1.nn f25 (by decide) (by decide) (by decide) (fun _ => f27)) (fun q => g1f (by omega) (fun z => absurd (inm.mpr z) (by omega)) (fun z => absurd (i40.mpr z) (by omega)))).1, fun q => absurd q (by omega), by rw [show v23 = 0 from f24]; exact PRS.no (tr1.fail (PBF.of tr1.nn f25 (by decide) (by decide) (by decide) (fun _ => f27)) (fun q => g1f (by omega) (fun z => absurd (inm.mpr z) (by omega)) (fun z => absurd (i40.mpr z) (by omega)))).2⟩)
        · refine tm_aload_n dX12_signed_79 rfl 1 rfl ?_
          refine tm_callV (M' := m_X12_advance) (As := []) (rest := []) dX12_signed_80 ok_X12_advance im_X12_advance se_X12_advance ml12_265 np_X12_advance rfl rfl (Nat.le_of_ble_eq_true rfl) (Nat.le_of_ble_eq_true rfl) rfl (c_X12_advance (d + 4 * lv + 3) (σ := σ)  hR (by have z := tr1.2.2.1.1; omega)) (fun r30 σ31 hp => ?_)
          obtain ⟨rfl, f33, f34, f35, f36, f37⟩ := hp
          show Tm _ _ 83 b σ31 [(1, .int (iI v3)), (0, .ref b)] [] _
          have tr2 := tr1.adv f34 f36 f37 (by omega) (fun q => g1p (by omega) (fun z => absurd (inm.mpr z) (by omega)) (i40.mp (by omega)) f33)
          refine tm_aload_n dX12_signed_83 rfl 1 rfl ?_
          refine tm_callV (M' := m_X12_expression) (As := []) (rest := []) dX12_signed_84 ok_X12_expression im_X12_expression se_X12_expression ml12_327 np_X12_expression rfl rfl (Nat.le_of_ble_eq_true rfl) (Nat.le_of_ble_eq_true rfl) rfl (hce (d) (σ := σ31)  f35 tr2.2.2.1 tr2.nn (by rw [show σ31.1 28 = σ.1 28 from rs_F f34 (by decide) (rfl)]; exact h28)) (fun r38 σ39 hp => ?_)
          obtain ⟨v40, rfl, f41, f42, f43, f44, f45, f46⟩ := hp
          show Tm _ _ 87 b σ39 [(1, .int (iI v3)), (0, .ref b)] [.int (iI v40)] _
          have xp0 := f41
          have xp1 := f42
          have xp2 := f43
          have xp3 := f44
          have xp4 := f45
          have xp5 := f46
          refine tm_if_eq (tgt := 99) dX12_signed_87 (by decide) ⟨by omega, by omega⟩ (fun h47 => ?_) (fun h47 => ?_)
          · refine tm_iconst dX12_signed_99 ?_
            exact tm_zret (v := 0) rfl (by decide) dX12_signed_100 (⟨_, rfl, by omega, ((Fr.rfl.trans (Fr.sub f34 (by decide) (by decide) (by decide))).trans (Fr.sub f42 (by decide) (by decide) (by decide))), f43, (tr2.fail xp3 (xp5.2 (by omega))).1, fun q => absurd q (by decide), PRS.no (tr2.fail xp3 (xp5.2 (by omega))).2⟩)
          · have tr3 := tr2.sub xp3 (xp4 (by omega)) (xp5.1 (by omega))
            refine tm_aload_n dX12_signed_90 rfl 1 rfl ?_
            refine tm_bipush dX12_signed_91 (by decide) ?_
            refine tm_callV (M' := m_X12_need) (As := [.int (iI 41)]) (rest := []) dX12_signed_93 ok_X12_need im_X12_need se_X12_need ml12_330 np_X12_need rfl rfl (Nat.le_of_ble_eq_true rfl) (Nat.le_of_ble_eq_true rfl) rfl (c_X12_need (d + 4 * lv + 2) (σ := σ39) (c := 41) f43 (by have z := tr3.2.2.1.1; omega) (by omega)) (fun r48 σ49 hp => ?_)
            obtain ⟨v50, rfl, f51, f52, f53, f54, f55, f56⟩ := hp
            show Tm _ _ 96 b σ49 [(1, .int (iI v3)), (0, .ref b)] [.int (iI v50)] _
            have yn0 := f51
            have yn1 := f52
            have yn2 := f53
            have yn3 := f54
            have yn4 := f55
            have yn5 := f56
            refine tm_if_ne (tgt := 106) dX12_signed_96 (by decide) ⟨by omega, by omega⟩ (fun h57 => ?_) (fun h57 => ?_)
            · have tr4 := tr3.needy f52 (yn3 (by omega)).2.2.1 (yn3 (by omega)).2.2.2.1 (yn3 (by omega)).2.2.2.2 (by have := (yn3 (by omega)).1.1; omega) (fun q => gn_41 (yn3 (by omega)).1 (yn3 (by omega)).2.1)
              have gt : GT σ49 := (xp4 (by omega)).2.2.1.fr f52 (by decide)
              have e28 : σ49.1 28 = σ.1 28 := by rw [f52.1 28 (by decide), (xp4 (by omega)).2.2.2.2]; exact (rs_F f34 (by decide) (rfl) : σ31.1 28 = σ.1 28)
              have rdj := tr4.2.2.1
              unfold RDY at rdj
              refine tm_iload_n dX12_signed_106 rfl 0 rfl ?_
              refine tm_if_eq (tgt := 125) dX12_signed_107 (by decide) ⟨by omega, by omega⟩ (fun h58 => ?_) (fun h58 => ?_)
              · refine tm_iconst dX12_signed_125 ?_
                exact tm_zret (v := 1) rfl (by decide) dX12_signed_126 (⟨_, rfl, by omega, (((Fr.rfl.trans (Fr.sub f34 (by decide) (by decide) (by decide))).trans (Fr.sub f42 (by decide) (by decide) (by decide))).trans (Fr.sub f52 (by decide) (by decide) (by decide))), f53, tr4.1, fun _ => tr4.exs (by decide) gt (e28), tr4.prs⟩)
              · exact absurd h58 (by omega)
            · refine tm_iconst dX12_signed_99 ?_
              exact tm_zret (v := 0) rfl (by decide) dX12_signed_100 (⟨_, rfl, by omega, (((Fr.rfl.trans (Fr.sub f34 (by decide) (by decide) (by decide))).trans (Fr.sub f42 (by decide) (by decide) (by decide))).trans (Fr.sub f52 (by decide) (by decide) (by decide))), f53, (tr3.fail (PBF.of tr3.nn f52 (by decide) (by decide) (by decide) yn5) (fun q => gf_41 (yn4 (by omega)))).1, fun q => absurd q (by decide), PRS.no (tr3.fail (PBF.of tr3.nn f52 (by decide) (by decide) (by decide) yn5) (fun q => gf_41 (yn4 (by omega)))).2⟩)
      · refine tm_aload_n dX12_signed_46 rfl 1 rfl ?_
        refine tm_iconst dX12_signed_47 ?_
        refine tm_aload_n dX12_signed_48 rfl 1 rfl ?_
        refine tm_aload_n dX12_signed_49 rfl 1 rfl ?_
        refine tm_getW (t := σ.2.2 24 0) dX12_signed_50 fl12_219 (rfl) ?_
        refine tm_aload_n dX12_signed_53 rfl 1 rfl ?_
        refine tm_getS (k := 19) (t := σ.1 19) dX12_signed_54 (by decide) fl12_216 rfl (rfl) ?_
        have g59 := RG.s hR 19
        refine tm_callV (M' := m_X12_nameOf) (As := [.long (σ.2.2 24 0), .int (iI (σ.1 19))]) (rest := [.int (iI 2), .ref b]) dX12_signed_57 ok_X12_nameOf im_X12_nameOf se_X12_nameOf ml12_323 np_X12_nameOf rfl rfl (Nat.le_of_ble_eq_true rfl) (Nat.le_of_ble_eq_true rfl) rfl (c_X12_nameOf (d + 4 * lv + 6) (σ := σ) (w := σ.2.2 24 0) (p := σ.1 19) hR tr1.nn (by have z := tr1.2.2.1.2.2.1; omega) (by omega)) (fun r60 σ61 hp => ?_)
        obtain ⟨v62, rfl, f63, f64, f65, f66⟩ := hp
        show Tm _ _ 60 b σ61 [(1, .int (iI v3)), (0, .ref b)] [.int (iI v62), .int (iI 2), .ref b] _
        have tr5 := tr1.keep f63 (by decide) (by decide) (by decide) f65
        have nv := f66
        have nw6 : NMW σ61 := by have z := inm.mp (by omega); unfold NMW at *; rw [f63.1 22 (by decide), f63.2.2 24 (by decide)]; exact z
        refine tm_callV (M' := m_X12_give) (As := [.int (iI 2), .int (iI v62)]) (rest := []) dX12_signed_60 ok_X12_give im_X12_give se_X12_give ml12_301 np_X12_give rfl rfl (Nat.le_of_ble_eq_true rfl) (Nat.le_of_ble_eq_true rfl) rfl (c2_X12_give (d + 4 * lv + 7) (σ := σ61) (k := 2) (w := v62) f64 (by omega) (by omega)) (fun r67 σ68 hp => ?_)
        obtain ⟨rfl, f70, f71, f72⟩ := hp
        show Tm _ _ 63 b σ68 [(1, .int (iI v3)), (0, .ref b)] [] _
        have tr6 := tr5.nop f70 (by decide) (by decide) (by decide) (by decide)
        have gv := f72
        have nw7 : NMW σ68 := by unfold NMW at *; rw [f70.1 22 (by decide), f70.2.2 24 (by decide)]; exact nw6
        refine tm_aload_n dX12_signed_63 rfl 1 rfl ?_
        refine tm_callV (M' := m_X12_advance) (As := []) (rest := []) dX12_signed_64 ok_X12_advance im_X12_advance se_X12_advance ml12_265 np_X12_advance rfl rfl (Nat.le_of_ble_eq_true rfl) (Nat.le_of_ble_eq_true rfl) rfl (c_X12_advance (d + 4 * lv + 3) (σ := σ68)  f71 (by have z := tr6.2.2.1.1; omega)) (fun r73 σ74 hp => ?_)
        obtain ⟨rfl, f76, f77, f78, f79, f80⟩ := hp
        show Tm _ _ 67 b σ74 [(1, .int (iI v3)), (0, .ref b)] [] _
        have tr7 := tr6.adv f77 f79 f80 (by have := nw7.1; omega) (fun q => g1a (Or.inr nw7) f76)
        have rdg := tr7.2.2.1
        unfold RDY at rdg
        have gt : GT σ74 := by unfold GT; rw [f77.1 39 (by decide), f77.1 40 (by decide), gv.1, gv.2]; exact ⟨Or.inr rfl, fun _ => by omega⟩
        have e28 : σ74.1 28 = σ.1 28 := rs_F f77 (by decide) (rs_F f70 (by decide) (rs_F f63 (by decide) (rfl)))
        refine tm_goto (tgt := 106) dX12_signed_67 (by decide) ?_
        have rdj := tr7.2.2.1
        unfold RDY at rdj
        refine tm_iload_n dX12_signed_106 rfl 0 rfl ?_
        refine tm_if_eq (tgt := 125) dX12_signed_107 (by decide) ⟨by omega, by omega⟩ (fun h81 => ?_) (fun h81 => ?_)
        · refine tm_iconst dX12_signed_125 ?_
          exact tm_zret (v := 1) rfl (by decide) dX12_signed_126 (⟨_, rfl, by omega, (((Fr.rfl.trans (Fr.sub f63 (by decide) (by decide) (by decide))).trans (Fr.sub f70 (by decide) (by decide) (by decide))).trans (Fr.sub f77 (by decide) (by decide) (by decide))), f78, tr7.1, fun _ => tr7.exs (by decide) gt (e28), tr7.prs⟩)
        · exact absurd h81 (by omega)
    · refine tm_aload_n dX12_signed_23 rfl 1 rfl ?_
      refine tm_iconst dX12_signed_24 ?_
      refine tm_aload_n dX12_signed_25 rfl 1 rfl ?_
      refine tm_getS (k := 23) (t := σ.1 23) dX12_signed_26 (by decide) fl12_223 rfl (rfl) ?_
      have g82 := RG.s hR 23
      refine tm_callV (M' := m_X12_give) (As := [.int (iI 1), .int (iI (σ.1 23))]) (rest := []) dX12_signed_29 ok_X12_give im_X12_give se_X12_give ml12_301 np_X12_give rfl rfl (Nat.le_of_ble_eq_true rfl) (Nat.le_of_ble_eq_true rfl) rfl (c2_X12_give (d + 4 * lv + 7) (σ := σ) (k := 1) (w := σ.1 23) hR (by omega) (by omega)) (fun r83 σ84 hp => ?_)
      obtain ⟨rfl, f86, f87, f88⟩ := hp
      show Tm _ _ 32 b σ84 [(1, .int (iI v3)), (0, .ref b)] [] _
      have tr8 := tr1.nop f86 (by decide) (by decide) (by decide) (by decide)
      have gv := f88
      have so3 : σ84.1 22 = 3 := by rw [f86.1 22 (by decide)]; omega
      refine tm_aload_n dX12_signed_32 rfl 1 rfl ?_
      refine tm_callV (M' := m_X12_advance) (As := []) (rest := []) dX12_signed_33 ok_X12_advance im_X12_advance se_X12_advance ml12_265 np_X12_advance rfl rfl (Nat.le_of_ble_eq_true rfl) (Nat.le_of_ble_eq_true rfl) rfl (c_X12_advance (d + 4 * lv + 3) (σ := σ84)  f87 (by have z := tr8.2.2.1.1; omega)) (fun r89 σ90 hp => ?_)
      obtain ⟨rfl, f92, f93, f94, f95, f96⟩ := hp
      show Tm _ _ 36 b σ90 [(1, .int (iI v3)), (0, .ref b)] [] _
      have tr9 := tr8.adv f93 f95 f96 (by omega) (fun q => g1a (Or.inl so3) f92)
      have gt : GT σ90 := by unfold GT; rw [f93.1 39 (by decide), f93.1 40 (by decide), gv.1]; exact ⟨Or.inl rfl, fun q => absurd q (by decide)⟩
      have e28 : σ90.1 28 = σ.1 28 := rs_F f93 (by decide) (rs_F f86 (by decide) (rfl))
      refine tm_goto (tgt := 106) dX12_signed_36 (by decide) ?_
      have rdj := tr9.2.2.1
      unfold RDY at rdj
      refine tm_iload_n dX12_signed_106 rfl 0 rfl ?_
      refine tm_if_eq (tgt := 125) dX12_signed_107 (by decide) ⟨by omega, by omega⟩ (fun h97 => ?_) (fun h97 => ?_)
      · refine tm_iconst dX12_signed_125 ?_
        exact tm_zret (v := 1) rfl (by decide) dX12_signed_126 (⟨_, rfl, by omega, ((Fr.rfl.trans (Fr.sub f86 (by decide) (by decide) (by decide))).trans (Fr.sub f93 (by decide) (by decide) (by decide))), f94, tr9.1, fun _ => tr9.exs (by decide) gt (e28), tr9.prs⟩)
      · exact absurd h97 (by omega)
  · refine tm_aload_n dX12_signed_11 rfl 1 rfl ?_
    refine tm_callV (M' := m_X12_advance) (As := []) (rest := []) dX12_signed_12 ok_X12_advance im_X12_advance se_X12_advance ml12_265 np_X12_advance rfl rfl (Nat.le_of_ble_eq_true rfl) (Nat.le_of_ble_eq_true rfl) rfl (c_X12_advance (d + 4 * lv + 3) (σ := σ)  hR (by have z := tr0.2.2.1.1; omega)) (fun r98 σ99 hp => ?_)
    obtain ⟨rfl, f101, f102, f103, f104, f105⟩ := hp
    show Tm _ _ 15 b σ99 [(1, .int (iI v3)), (0, .ref b)] [] _
    have tr10 := tr0.adv f102 f104 f105 (by omega) (fun q => g0m (i45.mp (by omega)) f101)
    refine tm_aload_n dX12_signed_15 rfl 1 rfl ?_
    refine tm_getS (k := 22) (t := σ99.1 22) dX12_signed_16 (by decide) fl12_226 rfl (rfl) ?_
    have g106 := RG.s f103 22
    refine tm_iconst dX12_signed_19 ?_
    refine tm_icmp_ne (tgt := 39) dX12_signed_20 (by decide) ⟨by omega, by omega⟩ ⟨by decide, by decide⟩ (fun h107 => ?_) (fun h107 => ?_)
    · refine tm_aload_n dX12_signed_39 rfl 1 rfl ?_
      refine tm_callV (M' := m_X12_isName) (As := []) (rest := []) dX12_signed_40 ok_X12_isName im_X12_isName se_X12_isName ml12_320 np_X12_isName rfl rfl (Nat.le_of_ble_eq_true rfl) (Nat.le_of_ble_eq_true rfl) rfl (c_X12_isName (d + 4 * lv + 7) (σ := σ99)  f103) (fun r108 σ109 hp => ?_)
      obtain ⟨v110, rfl, rfl, f111, f112⟩ := hp
      show Tm _ _ 43 b σ99 [(1, .int (iI v3)), (0, .ref b)] [.int (iI v110)] _
      have inm := f112
      refine tm_if_eq (tgt := 70) dX12_signed_43 (by decide) ⟨by omega, by omega⟩ (fun h113 => ?_) (fun h113 => ?_)
      · refine tm_aload_n dX12_signed_70 rfl 1 rfl ?_
        refine tm_bipush dX12_signed_71 (by decide) ?_
        refine tm_callV (M' := m_X12_isSign) (As := [.int (iI 40)]) (rest := []) dX12_signed_73 ok_X12_isSign im_X12_isSign se_X12_isSign ml12_258 np_X12_isSign rfl rfl (Nat.le_of_ble_eq_true rfl) (Nat.le_of_ble_eq_true rfl) rfl (c_X12_isSign (d + 4 * lv + 7) (σ := σ99) (c := 40) f103 (by omega)) (fun r114 σ115 hp => ?_)
        obtain ⟨v116, rfl, rfl, f117, f118⟩ := hp
        show Tm _ _ 76 b σ99 [(1, .int (iI v3)), (0, .ref b)] [.int (iI v116)] _
        have i40 := f118
        refine tm_if_eq (tgt := 101) dX12_signed_76 (by decide) ⟨by omega, by omega⟩ (fun h119 => ?_) (fun h119 => ?_)
        · refine tm_aload_n dX12_signed_101 rfl 1 rfl ?_
          refine tm_callV (M' := m_X12_wrong) (As := []) (rest := []) dX12_signed_102 ok_X12_wrong im_X12_wrong se_X12_wrong ml12_261 np_X12_wrong rfl rfl (Nat.le_of_ble_eq_true rfl) (Nat.le_of_ble_eq_true rfl) rfl (c_X12_wrong (d + 4 * lv + 7) (σ := σ99)  f103) (fun r120 σ121 hp => ?_)
          obtain ⟨v122, rfl, f123, f124, f125, f126, f127, f128⟩ := hp
          show Tm _ _ 105 b σ121 [(1, .int (iI v3)), (0, .ref b)] [.int (iI v122)] _
          exact tm_zret (v := v122) rfl (by omega) dX12_signed_105 (⟨_, rfl, by omega, ((Fr.rfl.trans (Fr.sub f102 (by decide) (by decide) (by decide))).trans (Fr.sub f124 (by decide) (by decide) (by decide))), f125, (tr10.fail (PBF.of tr10.nn f124 (by decide) (by decide) (by decide) (fun _ => f126)) (fun q => g1f (by omega) (fun z => absurd (inm.mpr z) (by omega)) (fun z => absurd (i40.mpr z) (by omega)))).1, fun q => absurd q (by omega), by rw [show v122 = 0 from f123]; exact PRS.no (tr10.fail (PBF.of tr10.nn f124 (by decide) (by decide) (by decide) (fun _ => f126)) (fun q => g1f (by omega) (fun z => absurd (inm.mpr z) (by omega)) (fun z => absurd (i40.mpr z) (by omega)))).2⟩)
        · refine tm_aload_n dX12_signed_79 rfl 1 rfl ?_
          refine tm_callV (M' := m_X12_advance) (As := []) (rest := []) dX12_signed_80 ok_X12_advance im_X12_advance se_X12_advance ml12_265 np_X12_advance rfl rfl (Nat.le_of_ble_eq_true rfl) (Nat.le_of_ble_eq_true rfl) rfl (c_X12_advance (d + 4 * lv + 3) (σ := σ99)  f103 (by have z := tr10.2.2.1.1; omega)) (fun r129 σ130 hp => ?_)
          obtain ⟨rfl, f132, f133, f134, f135, f136⟩ := hp
          show Tm _ _ 83 b σ130 [(1, .int (iI v3)), (0, .ref b)] [] _
          have tr11 := tr10.adv f133 f135 f136 (by omega) (fun q => g1p (by omega) (fun z => absurd (inm.mpr z) (by omega)) (i40.mp (by omega)) f132)
          refine tm_aload_n dX12_signed_83 rfl 1 rfl ?_
          refine tm_callV (M' := m_X12_expression) (As := []) (rest := []) dX12_signed_84 ok_X12_expression im_X12_expression se_X12_expression ml12_327 np_X12_expression rfl rfl (Nat.le_of_ble_eq_true rfl) (Nat.le_of_ble_eq_true rfl) rfl (hce (d) (σ := σ130)  f134 tr11.2.2.1 tr11.nn (by rw [show σ130.1 28 = σ.1 28 from rs_F f133 (by decide) (rs_F f102 (by decide) (rfl))]; exact h28)) (fun r137 σ138 hp => ?_)
          obtain ⟨v139, rfl, f140, f141, f142, f143, f144, f145⟩ := hp
          show Tm _ _ 87 b σ138 [(1, .int (iI v3)), (0, .ref b)] [.int (iI v139)] _
          have xp0 := f140
          have xp1 := f141
          have xp2 := f142
          have xp3 := f143
          have xp4 := f144
          have xp5 := f145
          refine tm_if_eq (tgt := 99) dX12_signed_87 (by decide) ⟨by omega, by omega⟩ (fun h146 => ?_) (fun h146 => ?_)
          · refine tm_iconst dX12_signed_99 ?_
            exact tm_zret (v := 0) rfl (by decide) dX12_signed_100 (⟨_, rfl, by omega, (((Fr.rfl.trans (Fr.sub f102 (by decide) (by decide) (by decide))).trans (Fr.sub f133 (by decide) (by decide) (by decide))).trans (Fr.sub f141 (by decide) (by decide) (by decide))), f142, (tr11.fail xp3 (xp5.2 (by omega))).1, fun q => absurd q (by decide), PRS.no (tr11.fail xp3 (xp5.2 (by omega))).2⟩)
          · have tr12 := tr11.sub xp3 (xp4 (by omega)) (xp5.1 (by omega))
            refine tm_aload_n dX12_signed_90 rfl 1 rfl ?_
            refine tm_bipush dX12_signed_91 (by decide) ?_
            refine tm_callV (M' := m_X12_need) (As := [.int (iI 41)]) (rest := []) dX12_signed_93 ok_X12_need im_X12_need se_X12_need ml12_330 np_X12_need rfl rfl (Nat.le_of_ble_eq_true rfl) (Nat.le_of_ble_eq_true rfl) rfl (c_X12_need (d + 4 * lv + 2) (σ := σ138) (c := 41) f142 (by have z := tr12.2.2.1.1; omega) (by omega)) (fun r147 σ148 hp => ?_)
            obtain ⟨v149, rfl, f150, f151, f152, f153, f154, f155⟩ := hp
            show Tm _ _ 96 b σ148 [(1, .int (iI v3)), (0, .ref b)] [.int (iI v149)] _
            have yn0 := f150
            have yn1 := f151
            have yn2 := f152
            have yn3 := f153
            have yn4 := f154
            have yn5 := f155
            refine tm_if_ne (tgt := 106) dX12_signed_96 (by decide) ⟨by omega, by omega⟩ (fun h156 => ?_) (fun h156 => ?_)
            · have tr13 := tr12.needy f151 (yn3 (by omega)).2.2.1 (yn3 (by omega)).2.2.2.1 (yn3 (by omega)).2.2.2.2 (by have := (yn3 (by omega)).1.1; omega) (fun q => gn_41 (yn3 (by omega)).1 (yn3 (by omega)).2.1)
              have gt : GT σ148 := (xp4 (by omega)).2.2.1.fr f151 (by decide)
              have e28 : σ148.1 28 = σ.1 28 := by rw [f151.1 28 (by decide), (xp4 (by omega)).2.2.2.2]; exact (rs_F f133 (by decide) (rs_F f102 (by decide) (rfl)) : σ130.1 28 = σ.1 28)
              have rdj := tr13.2.2.1
              unfold RDY at rdj
              refine tm_iload_n dX12_signed_106 rfl 0 rfl ?_
              refine tm_if_eq (tgt := 125) dX12_signed_107 (by decide) ⟨by omega, by omega⟩ (fun h157 => ?_) (fun h157 => ?_)
              · exact absurd h157 (by omega)
              · refine tm_aload_n dX12_signed_110 rfl 1 rfl ?_
                refine tm_iconst dX12_signed_111 ?_
                refine tm_iconst dX12_signed_112 ?_
                refine tm_iconst dX12_signed_113 ?_
                refine tm_aload_n dX12_signed_114 rfl 1 rfl ?_
                refine tm_getS (k := 39) (t := σ138.1 39) dX12_signed_115 (by decide) fl12_285 rfl (rs_F f151 (by decide) (rfl)) ?_
                have g158 := RG.s f142 39
                refine tm_aload_n dX12_signed_118 rfl 1 rfl ?_
                refine tm_getS (k := 40) (t := σ138.1 40) dX12_signed_119 (by decide) fl12_288 rfl (rs_F f151 (by decide) (rfl)) ?_
                have g159 := RG.s f142 40
                refine tm_callV (M' := m_X12_joins) (As := [.int (iI 2), .int (iI 1), .int (iI 0), .int (iI (σ138.1 39)), .int (iI (σ138.1 40))]) (rest := []) dX12_signed_122 ok_X12_joins im_X12_joins se_X12_joins ml12_310 np_X12_joins rfl rfl (Nat.le_of_ble_eq_true rfl) (Nat.le_of_ble_eq_true rfl) rfl (c_X12_joins (d + 4 * lv + 5) (σ := σ148) (k := 2) (ak := 1) (a := 0) (bk := σ138.1 39) (c := σ138.1 40) f152 (by omega) (by decide) (by decide) (by have z := gt; unfold GT at z; omega) (by omega) (by omega) (by omega)) (fun r160 σ161 hp => ?_)
                obtain ⟨rfl, f163, f164, f165, f166, f167⟩ := hp
                show Tm _ _ 125 b σ161 [(1, .int (iI v3)), (0, .ref b)] [] _
                have tr14 := tr13.join f163 ⟨f165.1, f165.2.1⟩ f166 f167 (by decide) hrd
                have gtj : GT σ161 := by unfold GT; rw [f165.2.2.1, f165.2.2.2, f165.1]; exact ⟨Or.inr rfl, fun _ => by omega⟩
                refine tm_iconst dX12_signed_125 ?_
                exact tm_zret (v := 1) rfl (by decide) dX12_signed_126 (⟨_, rfl, by omega, (((((Fr.rfl.trans (Fr.sub f102 (by decide) (by decide) (by decide))).trans (Fr.sub f133 (by decide) (by decide) (by decide))).trans (Fr.sub f141 (by decide) (by decide) (by decide))).trans (Fr.sub f151 (by decide) (by decide) (by decide))).trans (Fr.sub f163 (by decide) (by decide) (by decide))), f164, tr14.1, fun _ => tr14.exs (by decide) gtj (by rw [f163.1 28 (by decide)]; exact e28), tr14.prs⟩)
            · refine tm_iconst dX12_signed_99 ?_
              exact tm_zret (v := 0) rfl (by decide) dX12_signed_100 (⟨_, rfl, by omega, ((((Fr.rfl.trans (Fr.sub f102 (by decide) (by decide) (by decide))).trans (Fr.sub f133 (by decide) (by decide) (by decide))).trans (Fr.sub f141 (by decide) (by decide) (by decide))).trans (Fr.sub f151 (by decide) (by decide) (by decide))), f152, (tr12.fail (PBF.of tr12.nn f151 (by decide) (by decide) (by decide) yn5) (fun q => gf_41 (yn4 (by omega)))).1, fun q => absurd q (by decide), PRS.no (tr12.fail (PBF.of tr12.nn f151 (by decide) (by decide) (by decide) yn5) (fun q => gf_41 (yn4 (by omega)))).2⟩)
      · refine tm_aload_n dX12_signed_46 rfl 1 rfl ?_
        refine tm_iconst dX12_signed_47 ?_
        refine tm_aload_n dX12_signed_48 rfl 1 rfl ?_
        refine tm_aload_n dX12_signed_49 rfl 1 rfl ?_
        refine tm_getW (t := σ99.2.2 24 0) dX12_signed_50 fl12_219 (rfl) ?_
        refine tm_aload_n dX12_signed_53 rfl 1 rfl ?_
        refine tm_getS (k := 19) (t := σ99.1 19) dX12_signed_54 (by decide) fl12_216 rfl (rfl) ?_
        have g168 := RG.s f103 19
        refine tm_callV (M' := m_X12_nameOf) (As := [.long (σ99.2.2 24 0), .int (iI (σ99.1 19))]) (rest := [.int (iI 2), .ref b]) dX12_signed_57 ok_X12_nameOf im_X12_nameOf se_X12_nameOf ml12_323 np_X12_nameOf rfl rfl (Nat.le_of_ble_eq_true rfl) (Nat.le_of_ble_eq_true rfl) rfl (c_X12_nameOf (d + 4 * lv + 6) (σ := σ99) (w := σ99.2.2 24 0) (p := σ99.1 19) f103 tr10.nn (by have z := tr10.2.2.1.2.2.1; omega) (by omega)) (fun r169 σ170 hp => ?_)
        obtain ⟨v171, rfl, f172, f173, f174, f175⟩ := hp
        show Tm _ _ 60 b σ170 [(1, .int (iI v3)), (0, .ref b)] [.int (iI v171), .int (iI 2), .ref b] _
        have tr15 := tr10.keep f172 (by decide) (by decide) (by decide) f174
        have nv := f175
        have nw6 : NMW σ170 := by have z := inm.mp (by omega); unfold NMW at *; rw [f172.1 22 (by decide), f172.2.2 24 (by decide)]; exact z
        refine tm_callV (M' := m_X12_give) (As := [.int (iI 2), .int (iI v171)]) (rest := []) dX12_signed_60 ok_X12_give im_X12_give se_X12_give ml12_301 np_X12_give rfl rfl (Nat.le_of_ble_eq_true rfl) (Nat.le_of_ble_eq_true rfl) rfl (c2_X12_give (d + 4 * lv + 7) (σ := σ170) (k := 2) (w := v171) f173 (by omega) (by omega)) (fun r176 σ177 hp => ?_)
        obtain ⟨rfl, f179, f180, f181⟩ := hp
        show Tm _ _ 63 b σ177 [(1, .int (iI v3)), (0, .ref b)] [] _
        have tr16 := tr15.nop f179 (by decide) (by decide) (by decide) (by decide)
        have gv := f181
        have nw7 : NMW σ177 := by unfold NMW at *; rw [f179.1 22 (by decide), f179.2.2 24 (by decide)]; exact nw6
        refine tm_aload_n dX12_signed_63 rfl 1 rfl ?_
        refine tm_callV (M' := m_X12_advance) (As := []) (rest := []) dX12_signed_64 ok_X12_advance im_X12_advance se_X12_advance ml12_265 np_X12_advance rfl rfl (Nat.le_of_ble_eq_true rfl) (Nat.le_of_ble_eq_true rfl) rfl (c_X12_advance (d + 4 * lv + 3) (σ := σ177)  f180 (by have z := tr16.2.2.1.1; omega)) (fun r182 σ183 hp => ?_)
        obtain ⟨rfl, f185, f186, f187, f188, f189⟩ := hp
        show Tm _ _ 67 b σ183 [(1, .int (iI v3)), (0, .ref b)] [] _
        have tr17 := tr16.adv f186 f188 f189 (by have := nw7.1; omega) (fun q => g1a (Or.inr nw7) f185)
        have rdg := tr17.2.2.1
        unfold RDY at rdg
        have gt : GT σ183 := by unfold GT; rw [f186.1 39 (by decide), f186.1 40 (by decide), gv.1, gv.2]; exact ⟨Or.inr rfl, fun _ => by omega⟩
        have e28 : σ183.1 28 = σ.1 28 := rs_F f186 (by decide) (rs_F f179 (by decide) (rs_F f172 (by decide) (rs_F f102 (by decide) (rfl))))
        refine tm_goto (tgt := 106) dX12_signed_67 (by decide) ?_
        have rdj := tr17.2.2.1
        unfold RDY at rdj
        refine tm_iload_n dX12_signed_106 rfl 0 rfl ?_
        refine tm_if_eq (tgt := 125) dX12_signed_107 (by decide) ⟨by omega, by omega⟩ (fun h190 => ?_) (fun h190 => ?_)
        · exact absurd h190 (by omega)
        · refine tm_aload_n dX12_signed_110 rfl 1 rfl ?_
          refine tm_iconst dX12_signed_111 ?_
          refine tm_iconst dX12_signed_112 ?_
          refine tm_iconst dX12_signed_113 ?_
          refine tm_aload_n dX12_signed_114 rfl 1 rfl ?_
          refine tm_getS (k := 39) (t := σ177.1 39) dX12_signed_115 (by decide) fl12_285 rfl (rs_F f186 (by decide) (rfl)) ?_
          have g191 := RG.s f180 39
          refine tm_aload_n dX12_signed_118 rfl 1 rfl ?_
          refine tm_getS (k := 40) (t := σ177.1 40) dX12_signed_119 (by decide) fl12_288 rfl (rs_F f186 (by decide) (rfl)) ?_
          have g192 := RG.s f180 40
          refine tm_callV (M' := m_X12_joins) (As := [.int (iI 2), .int (iI 1), .int (iI 0), .int (iI (σ177.1 39)), .int (iI (σ177.1 40))]) (rest := []) dX12_signed_122 ok_X12_joins im_X12_joins se_X12_joins ml12_310 np_X12_joins rfl rfl (Nat.le_of_ble_eq_true rfl) (Nat.le_of_ble_eq_true rfl) rfl (c_X12_joins (d + 4 * lv + 5) (σ := σ183) (k := 2) (ak := 1) (a := 0) (bk := σ177.1 39) (c := σ177.1 40) f187 (by omega) (by decide) (by decide) (by have z := gt; unfold GT at z; omega) (by omega) (by omega) (by omega)) (fun r193 σ194 hp => ?_)
          obtain ⟨rfl, f196, f197, f198, f199, f200⟩ := hp
          show Tm _ _ 125 b σ194 [(1, .int (iI v3)), (0, .ref b)] [] _
          have tr18 := tr17.join f196 ⟨f198.1, f198.2.1⟩ f199 f200 (by decide) hrd
          have gtj : GT σ194 := by unfold GT; rw [f198.2.2.1, f198.2.2.2, f198.1]; exact ⟨Or.inr rfl, fun _ => by omega⟩
          refine tm_iconst dX12_signed_125 ?_
          exact tm_zret (v := 1) rfl (by decide) dX12_signed_126 (⟨_, rfl, by omega, (((((Fr.rfl.trans (Fr.sub f102 (by decide) (by decide) (by decide))).trans (Fr.sub f172 (by decide) (by decide) (by decide))).trans (Fr.sub f179 (by decide) (by decide) (by decide))).trans (Fr.sub f186 (by decide) (by decide) (by decide))).trans (Fr.sub f196 (by decide) (by decide) (by decide))), f197, tr18.1, fun _ => tr18.exs (by decide) gtj (by rw [f196.1 28 (by decide)]; exact e28), tr18.prs⟩)
    · refine tm_aload_n dX12_signed_23 rfl 1 rfl ?_
      refine tm_iconst dX12_signed_24 ?_
      refine tm_aload_n dX12_signed_25 rfl 1 rfl ?_
      refine tm_getS (k := 23) (t := σ99.1 23) dX12_signed_26 (by decide) fl12_223 rfl (rfl) ?_
      have g201 := RG.s f103 23
      refine tm_callV (M' := m_X12_give) (As := [.int (iI 1), .int (iI (σ99.1 23))]) (rest := []) dX12_signed_29 ok_X12_give im_X12_give se_X12_give ml12_301 np_X12_give rfl rfl (Nat.le_of_ble_eq_true rfl) (Nat.le_of_ble_eq_true rfl) rfl (c2_X12_give (d + 4 * lv + 7) (σ := σ99) (k := 1) (w := σ99.1 23) f103 (by omega) (by omega)) (fun r202 σ203 hp => ?_)
      obtain ⟨rfl, f205, f206, f207⟩ := hp
      show Tm _ _ 32 b σ203 [(1, .int (iI v3)), (0, .ref b)] [] _
      have tr19 := tr10.nop f205 (by decide) (by decide) (by decide) (by decide)
      have gv := f207
      have so3 : σ203.1 22 = 3 := by rw [f205.1 22 (by decide)]; omega
      refine tm_aload_n dX12_signed_32 rfl 1 rfl ?_
      refine tm_callV (M' := m_X12_advance) (As := []) (rest := []) dX12_signed_33 ok_X12_advance im_X12_advance se_X12_advance ml12_265 np_X12_advance rfl rfl (Nat.le_of_ble_eq_true rfl) (Nat.le_of_ble_eq_true rfl) rfl (c_X12_advance (d + 4 * lv + 3) (σ := σ203)  f206 (by have z := tr19.2.2.1.1; omega)) (fun r208 σ209 hp => ?_)
      obtain ⟨rfl, f211, f212, f213, f214, f215⟩ := hp
      show Tm _ _ 36 b σ209 [(1, .int (iI v3)), (0, .ref b)] [] _
      have tr20 := tr19.adv f212 f214 f215 (by omega) (fun q => g1a (Or.inl so3) f211)
      have gt : GT σ209 := by unfold GT; rw [f212.1 39 (by decide), f212.1 40 (by decide), gv.1]; exact ⟨Or.inl rfl, fun q => absurd q (by decide)⟩
      have e28 : σ209.1 28 = σ.1 28 := rs_F f212 (by decide) (rs_F f205 (by decide) (rs_F f102 (by decide) (rfl)))
      refine tm_goto (tgt := 106) dX12_signed_36 (by decide) ?_
      have rdj := tr20.2.2.1
      unfold RDY at rdj
      refine tm_iload_n dX12_signed_106 rfl 0 rfl ?_
      refine tm_if_eq (tgt := 125) dX12_signed_107 (by decide) ⟨by omega, by omega⟩ (fun h216 => ?_) (fun h216 => ?_)
      · exact absurd h216 (by omega)
      · refine tm_aload_n dX12_signed_110 rfl 1 rfl ?_
        refine tm_iconst dX12_signed_111 ?_
        refine tm_iconst dX12_signed_112 ?_
        refine tm_iconst dX12_signed_113 ?_
        refine tm_aload_n dX12_signed_114 rfl 1 rfl ?_
        refine tm_getS (k := 39) (t := σ203.1 39) dX12_signed_115 (by decide) fl12_285 rfl (rs_F f212 (by decide) (rfl)) ?_
        have g217 := RG.s f206 39
        refine tm_aload_n dX12_signed_118 rfl 1 rfl ?_
        refine tm_getS (k := 40) (t := σ203.1 40) dX12_signed_119 (by decide) fl12_288 rfl (rs_F f212 (by decide) (rfl)) ?_
        have g218 := RG.s f206 40
        refine tm_callV (M' := m_X12_joins) (As := [.int (iI 2), .int (iI 1), .int (iI 0), .int (iI (σ203.1 39)), .int (iI (σ203.1 40))]) (rest := []) dX12_signed_122 ok_X12_joins im_X12_joins se_X12_joins ml12_310 np_X12_joins rfl rfl (Nat.le_of_ble_eq_true rfl) (Nat.le_of_ble_eq_true rfl) rfl (c_X12_joins (d + 4 * lv + 5) (σ := σ209) (k := 2) (ak := 1) (a := 0) (bk := σ203.1 39) (c := σ203.1 40) f213 (by omega) (by decide) (by decide) (by have z := gt; unfold GT at z; omega) (by omega) (by omega) (by omega)) (fun r219 σ220 hp => ?_)
        obtain ⟨rfl, f222, f223, f224, f225, f226⟩ := hp
        show Tm _ _ 125 b σ220 [(1, .int (iI v3)), (0, .ref b)] [] _
        have tr21 := tr20.join f222 ⟨f224.1, f224.2.1⟩ f225 f226 (by decide) hrd
        have gtj : GT σ220 := by unfold GT; rw [f224.2.2.1, f224.2.2.2, f224.1]; exact ⟨Or.inr rfl, fun _ => by omega⟩
        refine tm_iconst dX12_signed_125 ?_
        exact tm_zret (v := 1) rfl (by decide) dX12_signed_126 (⟨_, rfl, by omega, ((((Fr.rfl.trans (Fr.sub f102 (by decide) (by decide) (by decide))).trans (Fr.sub f205 (by decide) (by decide) (by decide))).trans (Fr.sub f212 (by decide) (by decide) (by decide))).trans (Fr.sub f222 (by decide) (by decide) (by decide))), f223, tr21.1, fun _ => tr21.exs (by decide) gtj (by rw [f222.1 28 (by decide)]; exact e28), tr21.prs⟩)
