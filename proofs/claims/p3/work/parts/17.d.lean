/-! one road of the reader: what was used up, what was made, where the automaton stands -/
def PRS (k : Nat) (v : Int) (σ τ : MS) : Prop := (v = 1 → ∀ q, GOS [k] σ q [] τ q []) ∧ (v = 0 → ∀ q, GOF [k] σ q)
def EXS (σ τ : MS) : Prop := RDY τ ∧ PBC 2 σ τ ∧ GTm τ ∧ AC σ τ ∧ τ.1 28 = σ.1 28
theorem RDY.of {n : Int} {σ τ : MS} (h : RDY σ) (e : τ.1 25 = σ.1 25 ∧ τ.1 30 = σ.1 30) (t : TOK τ) (c : PBC n σ τ) (hn : 0 ≤ n) : RDY τ := by
  unfold RDY at *
  unfold PBC at c
  refine ⟨t, ?_⟩
  obtain ⟨-, h⟩ := h
  omega
theorem PBC.adv {σ τ : MS} (f : Fr [19, 20, 22, 23] [] [24] σ τ) (h0 : σ.1 19 < σ.1 20) (p : σ.1 20 ≤ τ.1 19) : PBC 2 σ τ := by
  unfold PBC
  rw [f.1 34 (by decide), f.1 32 (by decide), f.1 31 (by decide), f.1 33 (by decide)]
  omega
def TRm (k0 : Nat) (n : Int) (σ : MS) (ks : List Nat) (τ : MS) : Prop := PBF σ τ ∧ PBC n σ τ ∧ RDY τ ∧ AC σ τ ∧ ∀ q, GOS [k0] σ q ks τ q []
section TRS
variable {k0 k : Nat} {n : Int} {σ τ υ : MS} {rest new kk : List Nat}
theorem TRm.start (hrd : RDY σ) (hnn : NN σ) : TRm k0 0 σ [k0] σ := ⟨PBF.nop hnn (Fr.rfl : Fr [] [] [] σ σ) (by decide) (by decide) (by decide), PBC.nop (Fr.rfl : Fr [] [] [] σ σ) (by decide), hrd, AC.nil rfl, fun _ => GOS.nop rfl⟩
theorem TRm.h30 (t : TRm k0 n σ kk τ) : 0 ≤ σ.1 30 := by
  have a := t.1.2.2.2.2.2.2.2
  have b := t.2.2.1.2.2.1
  omega
theorem TRm.nn (t : TRm k0 n σ kk τ) : NN τ := t.1.2.2.1
theorem TRm.nxt (t : TRm k0 n σ (k :: rest) τ) (g : ∀ q, GOS [k] τ q new τ q []) : TRm k0 n σ (new ++ rest) τ := ⟨t.1, t.2.1, t.2.2.1, t.2.2.2.1, fun q => (t.2.2.2.2 q).then ((g q).more rest)⟩
theorem TRm.adv (t : TRm k0 n σ (k :: rest) τ) (f : Fr [19, 20, 22, 23] [] [24] τ υ) (tok : TOK υ) (p : τ.1 20 ≤ υ.1 19) (hs : τ.1 22 ≠ 0) (g : ∀ q, GOS [k] τ q new υ q []) : TRm k0 (n + 2) σ (new ++ rest) υ := by
  have h30 := t.h30
  obtain ⟨t1, t2, t3, t4, t5⟩ := t
  have pb : PBF τ υ := PBF.nop t1.2.2.1 f (by decide) (by decide) (by decide)
  have pc : PBC 2 τ υ := PBC.adv f (t3.1.2.1 hs) p
  exact ⟨t1.trans pb, t2.trans pc, RDY.of t3 ⟨pb.2.2.2.2.2.2.1, pb.2.2.2.2.2.2.2⟩ tok pc (by decide), t4.trans t1 (AC.nil (f.1 34 (by decide))) pb h30, fun q => (t5 q).then ((g q).more rest)⟩
theorem TRm.sub (t : TRm k0 n σ (k :: rest) τ) (pb : PBF τ υ) (e : EXS τ υ) (g : ∀ q, GOS [k] τ q [] υ q []) : TRm k0 (n + 2) σ rest υ := by
  have h30 := t.h30
  obtain ⟨t1, t2, t3, t4, t5⟩ := t
  exact ⟨t1.trans pb, t2.trans e.2.1, e.1, t4.trans t1 e.2.2.2.1 pb h30, fun q => (t5 q).then ((g q).more rest)⟩
theorem TRm.keep {ss ks js : List Nat} (t : TRm k0 n σ kk τ) (f : Fr ss ks js τ υ) (hs : ∀ j ∈ [19, 20, 21, 22, 23, 25, 28, 29, 30, 31, 32, 33, 34], j ∉ ss) (hk : ∀ j ∈ [1, 3, 4, 5, 6, 7, 8], j ∉ ks) (hj : 24 ∉ js) (pb : PBF τ υ) : TRm k0 n σ kk υ := by
  have h30 := t.h30
  obtain ⟨t1, t2, t3, t4, t5⟩ := t
  have e := fun j h => f.1 j (hs j h)
  have pc : PBC 0 τ υ := PBC.nop f (fun j q => hs j (by revert j q; decide))
  refine ⟨t1.trans pb, by have := t2.trans pc; rw [Int.add_zero] at this; exact this, RDY.of t3 ⟨pb.2.2.2.2.2.2.1, pb.2.2.2.2.2.2.2⟩ ?_ pc (by decide), t4.trans t1 (AC.nil (e 34 (by decide))) pb h30, fun q => (t5 q).last (vw_fr f (fun j q => hs j (by revert j q; decide)) (hk 1 (by decide)) hj)⟩
  unfold TOK
  rw [e 19 (by decide), e 20 (by decide), e 21 (by decide), e 22 (by decide), e 23 (by decide)]
  exact t3.1
theorem TRm.nop {ss ks js : List Nat} (t : TRm k0 n σ kk τ) (f : Fr ss ks js τ υ) (hs : ∀ j ∈ [19, 20, 21, 22, 23, 25, 26, 28, 29, 30, 31, 32, 33, 34], j ∉ ss) (hk : ∀ j ∈ [1, 3, 4, 5, 6, 7, 8, 35], j ∉ ks) (hj : 24 ∉ js) (hj2 : 38 ∉ js) : TRm k0 n σ kk υ :=
  t.keep f (fun j q => hs j (by revert j q; decide)) (fun j q => hk j (by revert j q; decide)) hj (PBF.nop t.nn f (fun j q => hs j (by revert j q; decide)) (fun j q => hk j (by revert j q; decide)) hj2)
theorem TRm.chg (t : TRm k0 n σ (k :: rest) τ) (f : Fr [28] [] [] τ υ) (g : ∀ q, GOS [k] τ q new υ q []) : TRm k0 n σ (new ++ rest) υ := by
  have h30 := t.h30
  obtain ⟨t1, t2, t3, t4, t5⟩ := t
  have pb : PBF τ υ := PBF.nop t1.2.2.1 f (by decide) (by decide) (by decide)
  have pc : PBC 0 τ υ := PBC.nop f (by decide)
  refine ⟨t1.trans pb, by have := t2.trans pc; rw [Int.add_zero] at this; exact this, RDY.of t3 ⟨pb.2.2.2.2.2.2.1, pb.2.2.2.2.2.2.2⟩ ?_ pc (by decide), t4.trans t1 (AC.nil (f.1 34 (by decide))) pb h30, fun q => (t5 q).then ((g q).more rest)⟩
  unfold TOK
  rw [f.1 19 (by decide), f.1 20 (by decide), f.1 21 (by decide), f.1 22 (by decide), f.1 23 (by decide)]
  exact t3.1
theorem TRm.join (t : TRm k0 n σ (51 :: rest) τ) (f : Fr [32, 34, 39, 40] [3, 4, 5, 6, 7, 8] [] τ υ) (e : υ.1 34 = τ.1 34 + 1 ∧ υ.1 32 = τ.1 32 + 1) (o : OFF (PXx τ) τ υ) (a : ACI υ (13 + τ.1 34) (PXx τ)) (hn : 1 ≤ n) (hrd : RDY σ) : TRm k0 (n - 1) σ rest υ := by
  have h30 := t.h30
  obtain ⟨t1, t2, t3, t4, t5⟩ := t
  have pb : PBF τ υ := PBF.put t1.2.2.1 f (by decide) (by decide) (by decide) e.1 o
  have pc : PBC (-1) τ υ := by
    unfold PBC
    rw [f.1 19 (by decide), f.1 31 (by decide), f.1 33 (by decide), e.1, e.2]
    omega
  have pc2 : PBC (n - 1) σ υ := t2.trans pc
  have p2 := t1.trans pb
  refine ⟨p2, pc2, RDY.of hrd ⟨p2.2.2.2.2.2.2.1, p2.2.2.2.2.2.2.2⟩ ?_ pc2 (by omega), t4.trans t1 (AC.one e.1 (by rw [e.1, show 12 + (τ.1 34 + 1) = 13 + τ.1 34 by omega]; exact a)) pb h30, fun q => (t5 q).then ((g51 ⟨?_, ?_, sv_fr f (by decide) (by decide)⟩ : GOS [51] τ q [] υ q []).more rest)⟩
  · unfold TOK
    rw [f.1 19 (by decide), f.1 20 (by decide), f.1 21 (by decide), f.1 22 (by decide), f.1 23 (by decide)]
    exact t3.1
  · unfold tks
    rw [f.1 19 (by decide), f.1 20 (by decide), f.1 22 (by decide), f.1 23 (by decide), f.2.2 24 (by decide)]
  · unfold xs
    rw [f.1 28 (by decide), f.1 29 (by decide), e.1]
theorem TRm.fail (t : TRm k0 n σ (k :: rest) τ) (pb : PBF τ υ) (g : ∀ q, GOF [k] τ q) : PBF σ υ ∧ ∀ q, GOF [k0] σ q := ⟨t.1.trans pb, fun q => (t.2.2.2.2 q).fail ((g q).more rest)⟩
theorem TRm.exs (t : TRm k0 n σ [] τ) (hn : 2 ≤ n) (g : GTm τ) (e : τ.1 28 = σ.1 28) : EXS σ τ := ⟨t.2.2.1, t.2.1.le hn, g, t.2.2.2.1, e⟩
theorem TRm.prs (t : TRm k0 n σ [] τ) : PRS k0 1 σ τ := ⟨fun _ => t.2.2.2.2, fun q => absurd q (by decide)⟩
theorem TRm.le {m : Int} (t : TRm k0 n σ kk τ) (h : m ≤ n) : TRm k0 m σ kk τ := ⟨t.1, t.2.1.le h, t.2.2⟩
end TRS
theorem PRS.no {k : Nat} {σ τ : MS} (h : ∀ q, GOF [k] σ q) : PRS k 0 σ τ := ⟨fun q => absurd q (by decide), fun _ => h⟩
theorem GTm.fr {ss ks js : List Nat} {σ τ : MS} (h : GTm σ) (f : Fr ss ks js σ τ) (hs : ∀ k ∈ [34, 39, 40], k ∉ ss) : GTm τ := by
  unfold GTm
  rw [f.1 34 (hs 34 (by decide)), f.1 39 (hs 39 (by decide)), f.1 40 (hs 40 (by decide))]
  exact h
section TRC
variable {k0 k : Nat} {n m : Int} {σ τ υ : MS} {rest new : List Nat}
theorem TRm.cat (t : TRm k0 n σ (k :: rest) τ) (u : TRm k m τ new υ) : TRm k0 (n + m) σ (new ++ rest) υ := by
  have h30 := t.h30
  obtain ⟨t1, t2, t3, t4, t5⟩ := t
  obtain ⟨u1, u2, u3, u4, u5⟩ := u
  exact ⟨t1.trans u1, t2.trans u2, u3, t4.trans t1 u4 u1 h30, fun q => (t5 q).then ((u5 q).more rest)⟩
end TRC
theorem TRm.needy {k0 k : Nat} {n : Int} {σ τ υ : MS} {rest new : List Nat} (t : TRm k0 n σ (k :: rest) τ) (f : Fr [19, 20, 22, 23, 26, 27] [] [24] τ υ) (tok : TOK υ) (p : τ.1 20 ≤ υ.1 19) (h26 : υ.1 26 = τ.1 26) (hs : τ.1 22 ≠ 0) (g : ∀ q, GOS [k] τ q new υ q []) : TRm k0 (n + 2) σ (new ++ rest) υ := by
  have h30 := t.h30
  obtain ⟨t1, t2, t3, t4, t5⟩ := t
  have pb : PBF τ υ := PBF.of t1.2.2.1 f (by decide) (by decide) (by decide) (FLT.eq h26)
  have pc : PBC 2 τ υ := by
    have h0 := t3.1.2.1 hs
    unfold PBC
    rw [f.1 34 (by decide), f.1 32 (by decide), f.1 31 (by decide), f.1 33 (by decide)]
    omega
  exact ⟨t1.trans pb, t2.trans pc, RDY.of t3 ⟨pb.2.2.2.2.2.2.1, pb.2.2.2.2.2.2.2⟩ tok pc (by decide), t4.trans t1 (AC.nil (f.1 34 (by decide))) pb h30, fun q => (t5 q).then ((g q).more rest)⟩

theorem ml12_320 : Cond.methodLink RX12 320 yX12_isName ∈ pWW := pw8 (List.mem_of_getElem? (i := 152) rfl) rfl
theorem ml12_327 : Cond.methodLink RX12 327 yX12_expression ∈ pWW := pw8 (List.mem_of_getElem? (i := 217) rfl) rfl
theorem ml12_330 : Cond.methodLink RX12 330 yX12_need ∈ pWW := pw8 (List.mem_of_getElem? (i := 173) rfl) rfl
theorem ml12_323 : Cond.methodLink RX12 323 yX12_nameOf ∈ pWW := pw8 (List.mem_of_getElem? (i := 185) rfl) rfl
theorem ml12_310 : Cond.methodLink RX12 310 yX12_joins ∈ pWW := pw8 (List.mem_of_getElem? (i := 237) rfl) rfl
theorem dX12_signed_0 : decode cX12_signed 0 = .ok (.aload_n 0, 1) := by decide +kernel
theorem dX12_signed_1 : decode cX12_signed 1 = .ok (.bipush 45, 2) := by decide +kernel
theorem dX12_signed_3 : decode cX12_signed 3 = .ok (.invokevirtual 258, 3) := by decide +kernel
theorem dX12_signed_6 : decode cX12_signed 6 = .ok (.istore_n 1, 1) := by decide +kernel
theorem dX12_signed_7 : decode cX12_signed 7 = .ok (.iload_n 1, 1) := by decide +kernel
theorem dX12_signed_8 : decode cX12_signed 8 = .ok (.ifCond .eq 7, 3) := by decide +kernel
theorem dX12_signed_15 : decode cX12_signed 15 = .ok (.aload_n 0, 1) := by decide +kernel
theorem dX12_signed_16 : decode cX12_signed 16 = .ok (.getfield 226, 3) := by decide +kernel
theorem dX12_signed_19 : decode cX12_signed 19 = .ok (.iconst 3, 1) := by decide +kernel
theorem dX12_signed_20 : decode cX12_signed 20 = .ok (.if_icmp .ne 19, 3) := by decide +kernel
theorem dX12_signed_39 : decode cX12_signed 39 = .ok (.aload_n 0, 1) := by decide +kernel
theorem dX12_signed_40 : decode cX12_signed 40 = .ok (.invokevirtual 320, 3) := by decide +kernel
theorem dX12_signed_43 : decode cX12_signed 43 = .ok (.ifCond .eq 27, 3) := by decide +kernel
theorem dX12_signed_70 : decode cX12_signed 70 = .ok (.aload_n 0, 1) := by decide +kernel
theorem dX12_signed_71 : decode cX12_signed 71 = .ok (.bipush 40, 2) := by decide +kernel
theorem dX12_signed_73 : decode cX12_signed 73 = .ok (.invokevirtual 258, 3) := by decide +kernel
theorem dX12_signed_76 : decode cX12_signed 76 = .ok (.ifCond .eq 25, 3) := by decide +kernel
theorem dX12_signed_101 : decode cX12_signed 101 = .ok (.aload_n 0, 1) := by decide +kernel
theorem dX12_signed_102 : decode cX12_signed 102 = .ok (.invokevirtual 261, 3) := by decide +kernel
theorem dX12_signed_105 : decode cX12_signed 105 = .ok (.ireturn, 1) := by decide +kernel
theorem dX12_signed_79 : decode cX12_signed 79 = .ok (.aload_n 0, 1) := by decide +kernel
theorem dX12_signed_80 : decode cX12_signed 80 = .ok (.invokevirtual 265, 3) := by decide +kernel
theorem dX12_signed_83 : decode cX12_signed 83 = .ok (.aload_n 0, 1) := by decide +kernel
theorem dX12_signed_84 : decode cX12_signed 84 = .ok (.invokevirtual 327, 3) := by decide +kernel
theorem dX12_signed_87 : decode cX12_signed 87 = .ok (.ifCond .eq 12, 3) := by decide +kernel
theorem dX12_signed_99 : decode cX12_signed 99 = .ok (.iconst 0, 1) := by decide +kernel
theorem dX12_signed_100 : decode cX12_signed 100 = .ok (.ireturn, 1) := by decide +kernel
theorem dX12_signed_90 : decode cX12_signed 90 = .ok (.aload_n 0, 1) := by decide +kernel
theorem dX12_signed_91 : decode cX12_signed 91 = .ok (.bipush 41, 2) := by decide +kernel
theorem dX12_signed_93 : decode cX12_signed 93 = .ok (.invokevirtual 330, 3) := by decide +kernel
theorem dX12_signed_96 : decode cX12_signed 96 = .ok (.ifCond .ne 10, 3) := by decide +kernel
theorem dX12_signed_106 : decode cX12_signed 106 = .ok (.iload_n 1, 1) := by decide +kernel
theorem dX12_signed_107 : decode cX12_signed 107 = .ok (.ifCond .eq 18, 3) := by decide +kernel
theorem dX12_signed_125 : decode cX12_signed 125 = .ok (.iconst 1, 1) := by decide +kernel
theorem dX12_signed_126 : decode cX12_signed 126 = .ok (.ireturn, 1) := by decide +kernel
theorem dX12_signed_46 : decode cX12_signed 46 = .ok (.aload_n 0, 1) := by decide +kernel
theorem dX12_signed_47 : decode cX12_signed 47 = .ok (.iconst 2, 1) := by decide +kernel
theorem dX12_signed_48 : decode cX12_signed 48 = .ok (.aload_n 0, 1) := by decide +kernel
theorem dX12_signed_49 : decode cX12_signed 49 = .ok (.aload_n 0, 1) := by decide +kernel
theorem dX12_signed_50 : decode cX12_signed 50 = .ok (.getfield 219, 3) := by decide +kernel
theorem dX12_signed_53 : decode cX12_signed 53 = .ok (.aload_n 0, 1) := by decide +kernel
theorem dX12_signed_54 : decode cX12_signed 54 = .ok (.getfield 216, 3) := by decide +kernel
theorem dX12_signed_57 : decode cX12_signed 57 = .ok (.invokevirtual 323, 3) := by decide +kernel
theorem dX12_signed_60 : decode cX12_signed 60 = .ok (.invokevirtual 301, 3) := by decide +kernel
theorem dX12_signed_63 : decode cX12_signed 63 = .ok (.aload_n 0, 1) := by decide +kernel
theorem dX12_signed_64 : decode cX12_signed 64 = .ok (.invokevirtual 265, 3) := by decide +kernel
theorem dX12_signed_67 : decode cX12_signed 67 = .ok (.goto 39, 3) := by decide +kernel
theorem dX12_signed_23 : decode cX12_signed 23 = .ok (.aload_n 0, 1) := by decide +kernel
theorem dX12_signed_24 : decode cX12_signed 24 = .ok (.iconst 1, 1) := by decide +kernel
theorem dX12_signed_25 : decode cX12_signed 25 = .ok (.aload_n 0, 1) := by decide +kernel
theorem dX12_signed_26 : decode cX12_signed 26 = .ok (.getfield 223, 3) := by decide +kernel
theorem dX12_signed_29 : decode cX12_signed 29 = .ok (.invokevirtual 301, 3) := by decide +kernel
theorem dX12_signed_32 : decode cX12_signed 32 = .ok (.aload_n 0, 1) := by decide +kernel
theorem dX12_signed_33 : decode cX12_signed 33 = .ok (.invokevirtual 265, 3) := by decide +kernel
theorem dX12_signed_36 : decode cX12_signed 36 = .ok (.goto 70, 3) := by decide +kernel
theorem dX12_signed_11 : decode cX12_signed 11 = .ok (.aload_n 0, 1) := by decide +kernel
theorem dX12_signed_12 : decode cX12_signed 12 = .ok (.invokevirtual 265, 3) := by decide +kernel
theorem dX12_signed_110 : decode cX12_signed 110 = .ok (.aload_n 0, 1) := by decide +kernel
theorem dX12_signed_111 : decode cX12_signed 111 = .ok (.iconst 2, 1) := by decide +kernel
theorem dX12_signed_112 : decode cX12_signed 112 = .ok (.iconst 1, 1) := by decide +kernel
theorem dX12_signed_113 : decode cX12_signed 113 = .ok (.iconst 0, 1) := by decide +kernel
theorem dX12_signed_114 : decode cX12_signed 114 = .ok (.aload_n 0, 1) := by decide +kernel
theorem dX12_signed_115 : decode cX12_signed 115 = .ok (.getfield 285, 3) := by decide +kernel
theorem dX12_signed_118 : decode cX12_signed 118 = .ok (.aload_n 0, 1) := by decide +kernel
theorem dX12_signed_119 : decode cX12_signed 119 = .ok (.getfield 288, 3) := by decide +kernel
theorem dX12_signed_122 : decode cX12_signed 122 = .ok (.invokevirtual 310, 3) := by decide +kernel
set_option maxHeartbeats 4000000 in
set_option maxRecDepth 20000 in
theorem c_X12_signed (d : Nat) {b : Nat} {σ : MS} {lv : Nat} (hce : ∀ (d : Nat) {b : Nat} {σ : MS} (hR : RG σ) (hrd : RDY σ) (hnn : NN σ) (h28 : σ.1 28 = 8 - (lv : Int)), Tm (d + 4 * lv + 8) m_X12_expression 0 b σ [(0, .ref b)] [] (fun ro σ2 => ∃ v : Int, ro = some (.int (iI v)) ∧ ((v = 0 ∨ v = 1)) ∧ (Fr [19, 20, 22, 23, 26, 27, 28, 32, 34, 39, 40] [3, 4, 5, 6, 7, 8, 35] [24, 38] σ σ2) ∧ (RG σ2) ∧ (PBF σ σ2) ∧ (v = 1 → EXS σ σ2) ∧ (PRS 2 v σ σ2) ∧ (σ2.1 28 = σ.1 28))) (hR : RG σ) (hrd : RDY σ) (hnn : NN σ) (h28 : σ.1 28 = 8 - (lv : Int)) : Tm (d + 4 * lv + 9) m_X12_signed 0 b σ [(0, .ref b)] [] (fun ro σ2 => ∃ v : Int, ro = some (.int (iI v)) ∧ ((v = 0 ∨ v = 1)) ∧ (Fr [19, 20, 22, 23, 26, 27, 28, 32, 34, 39, 40] [3, 4, 5, 6, 7, 8, 35] [24, 38] σ σ2) ∧ (RG σ2) ∧ (PBF σ σ2) ∧ (v = 1 → EXS σ σ2) ∧ (PRS 0 v σ σ2) ∧ (σ2.1 28 = σ.1 28)) := by
  have tr0 : TRm 0 0 σ [0] σ := TRm.start hrd hnn
  refine tm_aload_n dX12_signed_0 rfl 0 rfl ?_
  refine tm_bipush dX12_signed_1 (by decide) ?_
  refine tm_callV (M := m_X12_signed) (pc := 3) (ix := 258) (M' := m_X12_isSign) (As := [.int (iI 45)]) (rest := []) dX12_signed_3 ok_X12_isSign im_X12_isSign se_X12_isSign ml12_258 np_X12_isSign rfl rfl (Nat.le_of_ble_eq_true rfl) (Nat.le_of_ble_eq_true rfl) rfl (c2_X12_isSign (d + 4 * lv + 7) (σ := σ) (c := 45) hR (by omega)) (fun r1 σ2 hp => ?_)
  obtain ⟨v3, rfl, rfl, f4, f5, f6⟩ := hp
  show Tm _ _ 6 b σ [(0, .ref b)] [.int (iI v3)] _
  have i45 := f5
  have n45_ := f6
  refine tm_istore_n (L' := [(1, .int (iI v3)), (0, .ref b)]) dX12_signed_6 rfl (by decide) rfl ?_
  refine tm_iload_n dX12_signed_7 rfl 0 rfl ?_
  refine tm_if_eq (tgt := 15) dX12_signed_8 (by decide) ⟨by omega, by omega⟩ (fun h7 => ?_) (fun h7 => ?_)
  · have tr1 := tr0.nxt (fun q => g0n (n45_ (by omega)))
    refine tm_aload_n dX12_signed_15 rfl 1 rfl ?_
    refine tm_getS (k := 22) (t := σ.1 22) dX12_signed_16 (by decide) fl12_226 rfl (rfl) ?_
    have g8 := RG.s hR 22
    refine tm_iconst dX12_signed_19 ?_
    refine tm_icmp_ne (tgt := 39) dX12_signed_20 (by decide) ⟨by omega, by omega⟩ ⟨by decide, by decide⟩ (fun h9 => ?_) (fun h9 => ?_)
    · refine tm_aload_n dX12_signed_39 rfl 1 rfl ?_
      refine tm_callV (M := m_X12_signed) (pc := 40) (ix := 320) (M' := m_X12_isName) (As := []) (rest := []) dX12_signed_40 ok_X12_isName im_X12_isName se_X12_isName ml12_320 np_X12_isName rfl rfl (Nat.le_of_ble_eq_true rfl) (Nat.le_of_ble_eq_true rfl) rfl (c2_X12_isName (d + 4 * lv + 7) (σ := σ)  hR) (fun r10 σ11 hp => ?_)
      obtain ⟨v12, rfl, rfl, f13, f14, f15⟩ := hp
      show Tm _ _ 43 b σ [(1, .int (iI v3)), (0, .ref b)] [.int (iI v12)] _
      have inm := f14
      have nnm_ := f15
      refine tm_if_eq (tgt := 70) dX12_signed_43 (by decide) ⟨by omega, by omega⟩ (fun h16 => ?_) (fun h16 => ?_)
      · refine tm_aload_n dX12_signed_70 rfl 1 rfl ?_
        refine tm_bipush dX12_signed_71 (by decide) ?_
        refine tm_callV (M := m_X12_signed) (pc := 73) (ix := 258) (M' := m_X12_isSign) (As := [.int (iI 40)]) (rest := []) dX12_signed_73 ok_X12_isSign im_X12_isSign se_X12_isSign ml12_258 np_X12_isSign rfl rfl (Nat.le_of_ble_eq_true rfl) (Nat.le_of_ble_eq_true rfl) rfl (c2_X12_isSign (d + 4 * lv + 7) (σ := σ) (c := 40) hR (by omega)) (fun r17 σ18 hp => ?_)
        obtain ⟨v19, rfl, rfl, f20, f21, f22⟩ := hp
        show Tm _ _ 76 b σ [(1, .int (iI v3)), (0, .ref b)] [.int (iI v19)] _
        have i40 := f21
        have n40_ := f22
        refine tm_if_eq (tgt := 101) dX12_signed_76 (by decide) ⟨by omega, by omega⟩ (fun h23 => ?_) (fun h23 => ?_)
        · refine tm_aload_n dX12_signed_101 rfl 1 rfl ?_
          refine tm_callV (M := m_X12_signed) (pc := 102) (ix := 261) (M' := m_X12_wrong) (As := []) (rest := []) dX12_signed_102 ok_X12_wrong im_X12_wrong se_X12_wrong ml12_261 np_X12_wrong rfl rfl (Nat.le_of_ble_eq_true rfl) (Nat.le_of_ble_eq_true rfl) rfl (c_X12_wrong (d + 4 * lv + 7) (σ := σ)  hR) (fun r24 σ25 hp => ?_)
          obtain ⟨v26, rfl, f27, f28, f29, f30, f31, f32⟩ := hp
          show Tm _ _ 105 b σ25 [(1, .int (iI v3)), (0, .ref b)] [.int (iI v26)] _
          exact tm_zret (v := v26) rfl (by omega) dX12_signed_105 (⟨_, rfl, by omega, (Fr.rfl.trans (Fr.sub f28 (by decide) (by decide) (by decide))), f29, (tr1.fail (PBF.of tr1.nn f28 (by decide) (by decide) (by decide) (FLT.wr f31 f32)) (fun q => g1f (by omega) (nnm_ (by omega)) (n40_ (by omega)))).1, fun q => absurd q (by omega), by rw [show v26 = 0 from f27]; exact PRS.no (tr1.fail (PBF.of tr1.nn f28 (by decide) (by decide) (by decide) (FLT.wr f31 f32)) (fun q => g1f (by omega) (nnm_ (by omega)) (n40_ (by omega)))).2, rs_F f28 (by decide) (rfl)⟩)
        · refine tm_aload_n dX12_signed_79 rfl 1 rfl ?_
          refine tm_callV (M := m_X12_signed) (pc := 80) (ix := 265) (M' := m_X12_advance) (As := []) (rest := []) dX12_signed_80 ok_X12_advance im_X12_advance se_X12_advance ml12_265 np_X12_advance rfl rfl (Nat.le_of_ble_eq_true rfl) (Nat.le_of_ble_eq_true rfl) rfl (c_X12_advance (d + 4 * lv + 3) (σ := σ)  hR (by have z := tr1.2.2.1.1.1; omega)) (fun r33 σ34 hp => ?_)
          obtain ⟨rfl, f36, f37, f38, f39, f40⟩ := hp
          show Tm _ _ 83 b σ34 [(1, .int (iI v3)), (0, .ref b)] [] _
          have tr2 := tr1.adv f37 f39 f40 (by have z := (i40 (by omega)).1; omega) (fun q => g1p (by omega) (nnm_ (by omega)) (i40 (by omega)) f36)
          refine tm_aload_n dX12_signed_83 rfl 1 rfl ?_
          refine tm_callV (M := m_X12_signed) (pc := 84) (ix := 327) (M' := m_X12_expression) (As := []) (rest := []) dX12_signed_84 ok_X12_expression im_X12_expression se_X12_expression ml12_327 np_X12_expression rfl rfl (Nat.le_of_ble_eq_true rfl) (Nat.le_of_ble_eq_true rfl) rfl (hce (d) (σ := σ34)  f38 tr2.2.2.1 tr2.nn (by rw [show σ34.1 28 = σ.1 28 from rs_F f37 (by decide) (rfl)]; exact h28)) (fun r41 σ42 hp => ?_)
          obtain ⟨v43, rfl, f44, f45, f46, f47, f48, f49, f50⟩ := hp
          show Tm _ _ 87 b σ42 [(1, .int (iI v3)), (0, .ref b)] [.int (iI v43)] _
          have xp0 := f44
          have xp1 := f45
          have xp2 := f46
          have xp3 := f47
          have xp4 := f48
          have xp5 := f49
          have xp6 := f50
          have e28x : σ42.1 28 = σ.1 28 := xp6.trans (rs_F f37 (by decide) (rfl) : σ34.1 28 = σ.1 28)
          refine tm_if_eq (tgt := 99) dX12_signed_87 (by decide) ⟨by omega, by omega⟩ (fun h51 => ?_) (fun h51 => ?_)
          · refine tm_iconst dX12_signed_99 ?_
            exact tm_zret (v := 0) rfl (by decide) dX12_signed_100 (⟨_, rfl, by omega, ((Fr.rfl.trans (Fr.sub f37 (by decide) (by decide) (by decide))).trans (Fr.sub f45 (by decide) (by decide) (by decide))), f46, (tr2.fail xp3 (xp5.2 (by omega))).1, fun q => absurd q (by decide), PRS.no (tr2.fail xp3 (xp5.2 (by omega))).2, e28x⟩)
          · have tr3 := tr2.sub xp3 (xp4 (by omega)) (xp5.1 (by omega))
            refine tm_aload_n dX12_signed_90 rfl 1 rfl ?_
            refine tm_bipush dX12_signed_91 (by decide) ?_
            refine tm_callV (M := m_X12_signed) (pc := 93) (ix := 330) (M' := m_X12_need) (As := [.int (iI 41)]) (rest := []) dX12_signed_93 ok_X12_need im_X12_need se_X12_need ml12_330 np_X12_need rfl rfl (Nat.le_of_ble_eq_true rfl) (Nat.le_of_ble_eq_true rfl) rfl (c_X12_need (d + 4 * lv + 2) (σ := σ42) (c := 41) f46 (by have z := tr3.2.2.1.1.1; omega) (by omega)) (fun r52 σ53 hp => ?_)
            obtain ⟨v54, rfl, f55, f56, f57, f58, f59, f60⟩ := hp
            show Tm _ _ 96 b σ53 [(1, .int (iI v3)), (0, .ref b)] [.int (iI v54)] _
            have yn0 := f55
            have yn1 := f56
            have yn2 := f57
            have yn3 := f58
            have yn4 := f59
            have yn5 := f60
            refine tm_if_ne (tgt := 106) dX12_signed_96 (by decide) ⟨by omega, by omega⟩ (fun h61 => ?_) (fun h61 => ?_)
            · have ynq := yn3 (by omega)
              have tr4 := tr3.needy f56 ynq.2.2.1 ynq.2.2.2.1 ynq.2.2.2.2 (by have := ynq.1.1; omega) (fun q => gn_41 ynq.1 ynq.2.1)
              have gt : GTm σ53 := (xp4 (by omega)).2.2.1.fr f56 (by decide)
              have gtr := (xp4 (by omega)).2.2.1
              unfold GTm at gtr
              have k34 := f56.1 34 (by decide)
              have e28 : σ53.1 28 = σ.1 28 := by rw [f56.1 28 (by decide)]; exact e28x
              have rdj := tr4.2.2.1.2
              have tkj := tr4.2.2.1.1.1
              refine tm_iload_n dX12_signed_106 rfl 0 rfl ?_
              refine tm_if_eq (tgt := 125) dX12_signed_107 (by decide) ⟨by omega, by omega⟩ (fun h62 => ?_) (fun h62 => ?_)
              · refine tm_iconst dX12_signed_125 ?_
                exact tm_zret (v := 1) rfl (by decide) dX12_signed_126 (⟨_, rfl, by omega, (((Fr.rfl.trans (Fr.sub f37 (by decide) (by decide) (by decide))).trans (Fr.sub f45 (by decide) (by decide) (by decide))).trans (Fr.sub f56 (by decide) (by decide) (by decide))), f57, tr4.1, fun _ => tr4.exs (by decide) gt (e28), tr4.prs, e28⟩)
              · exact absurd h62 (by omega)
            · refine tm_iconst dX12_signed_99 ?_
              exact tm_zret (v := 0) rfl (by decide) dX12_signed_100 (⟨_, rfl, by omega, (((Fr.rfl.trans (Fr.sub f37 (by decide) (by decide) (by decide))).trans (Fr.sub f45 (by decide) (by decide) (by decide))).trans (Fr.sub f56 (by decide) (by decide) (by decide))), f57, (tr3.fail (PBF.of tr3.nn f56 (by decide) (by decide) (by decide) yn5) (fun q => gf_41 (yn4 (by omega)))).1, fun q => absurd q (by decide), PRS.no (tr3.fail (PBF.of tr3.nn f56 (by decide) (by decide) (by decide) yn5) (fun q => gf_41 (yn4 (by omega)))).2, by rw [f56.1 28 (by decide)]; exact e28x⟩)
      · refine tm_aload_n dX12_signed_46 rfl 1 rfl ?_
        refine tm_iconst dX12_signed_47 ?_
        refine tm_aload_n dX12_signed_48 rfl 1 rfl ?_
        refine tm_aload_n dX12_signed_49 rfl 1 rfl ?_
        refine tm_getW (t := σ.2.2 24 0) dX12_signed_50 fl12_219 (rfl) ?_
        refine tm_aload_n dX12_signed_53 rfl 1 rfl ?_
        refine tm_getS (k := 19) (t := σ.1 19) dX12_signed_54 (by decide) fl12_216 rfl (rfl) ?_
        have g63 := RG.s hR 19
        refine tm_callV (M := m_X12_signed) (pc := 57) (ix := 323) (M' := m_X12_nameOf) (As := [.long (σ.2.2 24 0), .int (iI (σ.1 19))]) (rest := [.int (iI 2), .ref b]) dX12_signed_57 ok_X12_nameOf im_X12_nameOf se_X12_nameOf ml12_323 np_X12_nameOf rfl rfl (Nat.le_of_ble_eq_true rfl) (Nat.le_of_ble_eq_true rfl) rfl (c_X12_nameOf (d + 4 * lv + 6) (σ := σ) (w := σ.2.2 24 0) (p := σ.1 19) hR tr1.nn (by have z := tr1.2.2.1.2.2.1; omega) (by omega)) (fun r64 σ65 hp => ?_)
        obtain ⟨v66, rfl, f67, f68, f69, f70⟩ := hp
        show Tm _ _ 60 b σ65 [(1, .int (iI v3)), (0, .ref b)] [.int (iI v66), .int (iI 2), .ref b] _
        have tr5 := tr1.keep f67 (by decide) (by decide) (by decide) f69
        have nv := f70
        have nw6 : NMW σ65 := by have z := inm (by omega); unfold NMW at *; rw [f67.1 22 (by decide), f67.2.2 24 (by decide)]; exact z
        refine tm_callV (M := m_X12_signed) (pc := 60) (ix := 301) (M' := m_X12_give) (As := [.int (iI 2), .int (iI v66)]) (rest := []) dX12_signed_60 ok_X12_give im_X12_give se_X12_give ml12_301 np_X12_give rfl rfl (Nat.le_of_ble_eq_true rfl) (Nat.le_of_ble_eq_true rfl) rfl (c2_X12_give (d + 4 * lv + 7) (σ := σ65) (k := 2) (w := v66) f68 (by omega) (by omega)) (fun r71 σ72 hp => ?_)
        obtain ⟨rfl, f74, f75, f76⟩ := hp
        show Tm _ _ 63 b σ72 [(1, .int (iI v3)), (0, .ref b)] [] _
        have tr6 := tr5.nop f74 (by decide) (by decide) (by decide) (by decide)
        have gv := f76
        have nw7 : NMW σ72 := by unfold NMW at *; rw [f74.1 22 (by decide), f74.2.2 24 (by decide)]; exact nw6
        refine tm_aload_n dX12_signed_63 rfl 1 rfl ?_
        refine tm_callV (M := m_X12_signed) (pc := 64) (ix := 265) (M' := m_X12_advance) (As := []) (rest := []) dX12_signed_64 ok_X12_advance im_X12_advance se_X12_advance ml12_265 np_X12_advance rfl rfl (Nat.le_of_ble_eq_true rfl) (Nat.le_of_ble_eq_true rfl) rfl (c_X12_advance (d + 4 * lv + 3) (σ := σ72)  f75 (by have z := tr6.2.2.1.1.1; omega)) (fun r77 σ78 hp => ?_)
        obtain ⟨rfl, f80, f81, f82, f83, f84⟩ := hp
        show Tm _ _ 67 b σ78 [(1, .int (iI v3)), (0, .ref b)] [] _
        have tr7 := tr6.adv f81 f83 f84 (by have := nw7.1; omega) (fun q => g1a (Or.inr nw7) f80)
        have rdg := tr7.2.2.1
        unfold RDY at rdg
        have gt : GTm σ78 := by unfold GTm; rw [f81.1 39 (by decide), f81.1 40 (by decide), gv.1, gv.2]; exact ⟨Or.inr rfl, fun _ => by omega⟩
        have e28 : σ78.1 28 = σ.1 28 := rs_F f81 (by decide) (rs_F f74 (by decide) (rs_F f67 (by decide) (rfl)))
        refine tm_goto (tgt := 106) dX12_signed_67 (by decide) ?_
        have rdj := tr7.2.2.1.2
        have tkj := tr7.2.2.1.1.1
        refine tm_iload_n dX12_signed_106 rfl 0 rfl ?_
        refine tm_if_eq (tgt := 125) dX12_signed_107 (by decide) ⟨by omega, by omega⟩ (fun h85 => ?_) (fun h85 => ?_)
        · refine tm_iconst dX12_signed_125 ?_
          exact tm_zret (v := 1) rfl (by decide) dX12_signed_126 (⟨_, rfl, by omega, (((Fr.rfl.trans (Fr.sub f67 (by decide) (by decide) (by decide))).trans (Fr.sub f74 (by decide) (by decide) (by decide))).trans (Fr.sub f81 (by decide) (by decide) (by decide))), f82, tr7.1, fun _ => tr7.exs (by decide) gt (e28), tr7.prs, e28⟩)
        · exact absurd h85 (by omega)
    · refine tm_aload_n dX12_signed_23 rfl 1 rfl ?_
      refine tm_iconst dX12_signed_24 ?_
      refine tm_aload_n dX12_signed_25 rfl 1 rfl ?_
      refine tm_getS (k := 23) (t := σ.1 23) dX12_signed_26 (by decide) fl12_223 rfl (rfl) ?_
      have g86 := RG.s hR 23
      refine tm_callV (M := m_X12_signed) (pc := 29) (ix := 301) (M' := m_X12_give) (As := [.int (iI 1), .int (iI (σ.1 23))]) (rest := []) dX12_signed_29 ok_X12_give im_X12_give se_X12_give ml12_301 np_X12_give rfl rfl (Nat.le_of_ble_eq_true rfl) (Nat.le_of_ble_eq_true rfl) rfl (c2_X12_give (d + 4 * lv + 7) (σ := σ) (k := 1) (w := σ.1 23) hR (by omega) (by omega)) (fun r87 σ88 hp => ?_)
      obtain ⟨rfl, f90, f91, f92⟩ := hp
      show Tm _ _ 32 b σ88 [(1, .int (iI v3)), (0, .ref b)] [] _
      have tr8 := tr1.nop f90 (by decide) (by decide) (by decide) (by decide)
      have gv := f92
      have so3 : σ88.1 22 = 3 := by rw [f90.1 22 (by decide)]; omega
      refine tm_aload_n dX12_signed_32 rfl 1 rfl ?_
      refine tm_callV (M := m_X12_signed) (pc := 33) (ix := 265) (M' := m_X12_advance) (As := []) (rest := []) dX12_signed_33 ok_X12_advance im_X12_advance se_X12_advance ml12_265 np_X12_advance rfl rfl (Nat.le_of_ble_eq_true rfl) (Nat.le_of_ble_eq_true rfl) rfl (c_X12_advance (d + 4 * lv + 3) (σ := σ88)  f91 (by have z := tr8.2.2.1.1.1; omega)) (fun r93 σ94 hp => ?_)
      obtain ⟨rfl, f96, f97, f98, f99, f100⟩ := hp
      show Tm _ _ 36 b σ94 [(1, .int (iI v3)), (0, .ref b)] [] _
      have tr9 := tr8.adv f97 f99 f100 (by omega) (fun q => g1a (Or.inl so3) f96)
      have gt : GTm σ94 := by unfold GTm; rw [f97.1 39 (by decide), f97.1 40 (by decide), gv.1]; exact ⟨Or.inl rfl, fun q => absurd q (by decide)⟩
      have e28 : σ94.1 28 = σ.1 28 := rs_F f97 (by decide) (rs_F f90 (by decide) (rfl))
      refine tm_goto (tgt := 106) dX12_signed_36 (by decide) ?_
      have rdj := tr9.2.2.1.2
      have tkj := tr9.2.2.1.1.1
      refine tm_iload_n dX12_signed_106 rfl 0 rfl ?_
      refine tm_if_eq (tgt := 125) dX12_signed_107 (by decide) ⟨by omega, by omega⟩ (fun h101 => ?_) (fun h101 => ?_)
      · refine tm_iconst dX12_signed_125 ?_
        exact tm_zret (v := 1) rfl (by decide) dX12_signed_126 (⟨_, rfl, by omega, ((Fr.rfl.trans (Fr.sub f90 (by decide) (by decide) (by decide))).trans (Fr.sub f97 (by decide) (by decide) (by decide))), f98, tr9.1, fun _ => tr9.exs (by decide) gt (e28), tr9.prs, e28⟩)
      · exact absurd h101 (by omega)
  · refine tm_aload_n dX12_signed_11 rfl 1 rfl ?_
    refine tm_callV (M := m_X12_signed) (pc := 12) (ix := 265) (M' := m_X12_advance) (As := []) (rest := []) dX12_signed_12 ok_X12_advance im_X12_advance se_X12_advance ml12_265 np_X12_advance rfl rfl (Nat.le_of_ble_eq_true rfl) (Nat.le_of_ble_eq_true rfl) rfl (c_X12_advance (d + 4 * lv + 3) (σ := σ)  hR (by have z := tr0.2.2.1.1.1; omega)) (fun r102 σ103 hp => ?_)
    obtain ⟨rfl, f105, f106, f107, f108, f109⟩ := hp
    show Tm _ _ 15 b σ103 [(1, .int (iI v3)), (0, .ref b)] [] _
    have tr10 := tr0.adv f106 f108 f109 (by have z := (i45 (by omega)).1; omega) (fun q => g0m (i45 (by omega)) f105)
    refine tm_aload_n dX12_signed_15 rfl 1 rfl ?_
    refine tm_getS (k := 22) (t := σ103.1 22) dX12_signed_16 (by decide) fl12_226 rfl (rfl) ?_
    have g110 := RG.s f107 22
    refine tm_iconst dX12_signed_19 ?_
    refine tm_icmp_ne (tgt := 39) dX12_signed_20 (by decide) ⟨by omega, by omega⟩ ⟨by decide, by decide⟩ (fun h111 => ?_) (fun h111 => ?_)
    · refine tm_aload_n dX12_signed_39 rfl 1 rfl ?_
      refine tm_callV (M := m_X12_signed) (pc := 40) (ix := 320) (M' := m_X12_isName) (As := []) (rest := []) dX12_signed_40 ok_X12_isName im_X12_isName se_X12_isName ml12_320 np_X12_isName rfl rfl (Nat.le_of_ble_eq_true rfl) (Nat.le_of_ble_eq_true rfl) rfl (c2_X12_isName (d + 4 * lv + 7) (σ := σ103)  f107) (fun r112 σ113 hp => ?_)
      obtain ⟨v114, rfl, rfl, f115, f116, f117⟩ := hp
      show Tm _ _ 43 b σ103 [(1, .int (iI v3)), (0, .ref b)] [.int (iI v114)] _
      have inm := f116
      have nnm_ := f117
      refine tm_if_eq (tgt := 70) dX12_signed_43 (by decide) ⟨by omega, by omega⟩ (fun h118 => ?_) (fun h118 => ?_)
      · refine tm_aload_n dX12_signed_70 rfl 1 rfl ?_
        refine tm_bipush dX12_signed_71 (by decide) ?_
        refine tm_callV (M := m_X12_signed) (pc := 73) (ix := 258) (M' := m_X12_isSign) (As := [.int (iI 40)]) (rest := []) dX12_signed_73 ok_X12_isSign im_X12_isSign se_X12_isSign ml12_258 np_X12_isSign rfl rfl (Nat.le_of_ble_eq_true rfl) (Nat.le_of_ble_eq_true rfl) rfl (c2_X12_isSign (d + 4 * lv + 7) (σ := σ103) (c := 40) f107 (by omega)) (fun r119 σ120 hp => ?_)
        obtain ⟨v121, rfl, rfl, f122, f123, f124⟩ := hp
        show Tm _ _ 76 b σ103 [(1, .int (iI v3)), (0, .ref b)] [.int (iI v121)] _
        have i40 := f123
        have n40_ := f124
        refine tm_if_eq (tgt := 101) dX12_signed_76 (by decide) ⟨by omega, by omega⟩ (fun h125 => ?_) (fun h125 => ?_)
        · refine tm_aload_n dX12_signed_101 rfl 1 rfl ?_
          refine tm_callV (M := m_X12_signed) (pc := 102) (ix := 261) (M' := m_X12_wrong) (As := []) (rest := []) dX12_signed_102 ok_X12_wrong im_X12_wrong se_X12_wrong ml12_261 np_X12_wrong rfl rfl (Nat.le_of_ble_eq_true rfl) (Nat.le_of_ble_eq_true rfl) rfl (c_X12_wrong (d + 4 * lv + 7) (σ := σ103)  f107) (fun r126 σ127 hp => ?_)
          obtain ⟨v128, rfl, f129, f130, f131, f132, f133, f134⟩ := hp
          show Tm _ _ 105 b σ127 [(1, .int (iI v3)), (0, .ref b)] [.int (iI v128)] _
          exact tm_zret (v := v128) rfl (by omega) dX12_signed_105 (⟨_, rfl, by omega, ((Fr.rfl.trans (Fr.sub f106 (by decide) (by decide) (by decide))).trans (Fr.sub f130 (by decide) (by decide) (by decide))), f131, (tr10.fail (PBF.of tr10.nn f130 (by decide) (by decide) (by decide) (FLT.wr f133 f134)) (fun q => g1f (by omega) (nnm_ (by omega)) (n40_ (by omega)))).1, fun q => absurd q (by omega), by rw [show v128 = 0 from f129]; exact PRS.no (tr10.fail (PBF.of tr10.nn f130 (by decide) (by decide) (by decide) (FLT.wr f133 f134)) (fun q => g1f (by omega) (nnm_ (by omega)) (n40_ (by omega)))).2, rs_F f130 (by decide) (rs_F f106 (by decide) (rfl))⟩)
        · refine tm_aload_n dX12_signed_79 rfl 1 rfl ?_
          refine tm_callV (M := m_X12_signed) (pc := 80) (ix := 265) (M' := m_X12_advance) (As := []) (rest := []) dX12_signed_80 ok_X12_advance im_X12_advance se_X12_advance ml12_265 np_X12_advance rfl rfl (Nat.le_of_ble_eq_true rfl) (Nat.le_of_ble_eq_true rfl) rfl (c_X12_advance (d + 4 * lv + 3) (σ := σ103)  f107 (by have z := tr10.2.2.1.1.1; omega)) (fun r135 σ136 hp => ?_)
          obtain ⟨rfl, f138, f139, f140, f141, f142⟩ := hp
          show Tm _ _ 83 b σ136 [(1, .int (iI v3)), (0, .ref b)] [] _
          have tr11 := tr10.adv f139 f141 f142 (by have z := (i40 (by omega)).1; omega) (fun q => g1p (by omega) (nnm_ (by omega)) (i40 (by omega)) f138)
          refine tm_aload_n dX12_signed_83 rfl 1 rfl ?_
          refine tm_callV (M := m_X12_signed) (pc := 84) (ix := 327) (M' := m_X12_expression) (As := []) (rest := []) dX12_signed_84 ok_X12_expression im_X12_expression se_X12_expression ml12_327 np_X12_expression rfl rfl (Nat.le_of_ble_eq_true rfl) (Nat.le_of_ble_eq_true rfl) rfl (hce (d) (σ := σ136)  f140 tr11.2.2.1 tr11.nn (by rw [show σ136.1 28 = σ.1 28 from rs_F f139 (by decide) (rs_F f106 (by decide) (rfl))]; exact h28)) (fun r143 σ144 hp => ?_)
          obtain ⟨v145, rfl, f146, f147, f148, f149, f150, f151, f152⟩ := hp
          show Tm _ _ 87 b σ144 [(1, .int (iI v3)), (0, .ref b)] [.int (iI v145)] _
          have xp0 := f146
          have xp1 := f147
          have xp2 := f148
          have xp3 := f149
          have xp4 := f150
          have xp5 := f151
          have xp6 := f152
          have e28x : σ144.1 28 = σ.1 28 := xp6.trans (rs_F f139 (by decide) (rs_F f106 (by decide) (rfl)) : σ136.1 28 = σ.1 28)
          refine tm_if_eq (tgt := 99) dX12_signed_87 (by decide) ⟨by omega, by omega⟩ (fun h153 => ?_) (fun h153 => ?_)
          · refine tm_iconst dX12_signed_99 ?_
            exact tm_zret (v := 0) rfl (by decide) dX12_signed_100 (⟨_, rfl, by omega, (((Fr.rfl.trans (Fr.sub f106 (by decide) (by decide) (by decide))).trans (Fr.sub f139 (by decide) (by decide) (by decide))).trans (Fr.sub f147 (by decide) (by decide) (by decide))), f148, (tr11.fail xp3 (xp5.2 (by omega))).1, fun q => absurd q (by decide), PRS.no (tr11.fail xp3 (xp5.2 (by omega))).2, e28x⟩)
          · have tr12 := tr11.sub xp3 (xp4 (by omega)) (xp5.1 (by omega))
            refine tm_aload_n dX12_signed_90 rfl 1 rfl ?_
            refine tm_bipush dX12_signed_91 (by decide) ?_
            refine tm_callV (M := m_X12_signed) (pc := 93) (ix := 330) (M' := m_X12_need) (As := [.int (iI 41)]) (rest := []) dX12_signed_93 ok_X12_need im_X12_need se_X12_need ml12_330 np_X12_need rfl rfl (Nat.le_of_ble_eq_true rfl) (Nat.le_of_ble_eq_true rfl) rfl (c_X12_need (d + 4 * lv + 2) (σ := σ144) (c := 41) f148 (by have z := tr12.2.2.1.1.1; omega) (by omega)) (fun r154 σ155 hp => ?_)
            obtain ⟨v156, rfl, f157, f158, f159, f160, f161, f162⟩ := hp
            show Tm _ _ 96 b σ155 [(1, .int (iI v3)), (0, .ref b)] [.int (iI v156)] _
            have yn0 := f157
            have yn1 := f158
            have yn2 := f159
            have yn3 := f160
            have yn4 := f161
            have yn5 := f162
            refine tm_if_ne (tgt := 106) dX12_signed_96 (by decide) ⟨by omega, by omega⟩ (fun h163 => ?_) (fun h163 => ?_)
            · have ynq := yn3 (by omega)
              have tr13 := tr12.needy f158 ynq.2.2.1 ynq.2.2.2.1 ynq.2.2.2.2 (by have := ynq.1.1; omega) (fun q => gn_41 ynq.1 ynq.2.1)
              have gt : GTm σ155 := (xp4 (by omega)).2.2.1.fr f158 (by decide)
              have gtr := (xp4 (by omega)).2.2.1
              unfold GTm at gtr
              have k34 := f158.1 34 (by decide)
              have e28 : σ155.1 28 = σ.1 28 := by rw [f158.1 28 (by decide)]; exact e28x
              have rdj := tr13.2.2.1.2
              have tkj := tr13.2.2.1.1.1
              refine tm_iload_n dX12_signed_106 rfl 0 rfl ?_
              refine tm_if_eq (tgt := 125) dX12_signed_107 (by decide) ⟨by omega, by omega⟩ (fun h164 => ?_) (fun h164 => ?_)
              · exact absurd h164 (by omega)
              · refine tm_aload_n dX12_signed_110 rfl 1 rfl ?_
                refine tm_iconst dX12_signed_111 ?_
                refine tm_iconst dX12_signed_112 ?_
                refine tm_iconst dX12_signed_113 ?_
                refine tm_aload_n dX12_signed_114 rfl 1 rfl ?_
                refine tm_getS (k := 39) (t := σ144.1 39) dX12_signed_115 (by decide) fl12_285 rfl (rs_F f158 (by decide) (rfl)) ?_
                have g165 := RG.s f148 39
                refine tm_aload_n dX12_signed_118 rfl 1 rfl ?_
                refine tm_getS (k := 40) (t := σ144.1 40) dX12_signed_119 (by decide) fl12_288 rfl (rs_F f158 (by decide) (rfl)) ?_
                have g166 := RG.s f148 40
                refine tm_callV (M := m_X12_signed) (pc := 122) (ix := 310) (M' := m_X12_joins) (As := [.int (iI 2), .int (iI 1), .int (iI 0), .int (iI (σ144.1 39)), .int (iI (σ144.1 40))]) (rest := []) dX12_signed_122 ok_X12_joins im_X12_joins se_X12_joins ml12_310 np_X12_joins rfl rfl (Nat.le_of_ble_eq_true rfl) (Nat.le_of_ble_eq_true rfl) rfl (c_X12_joins (d + 4 * lv + 5) (σ := σ155) (k := 2) (ak := 1) (a := 0) (bk := σ144.1 39) (c := σ144.1 40) f159 (by omega) (by decide) (by omega) (by have z := gt; unfold GTm at z; omega) (by omega) (by omega) (by omega)) (fun r167 σ168 hp => ?_)
                obtain ⟨rfl, f170, f171, f172, f173, f174⟩ := hp
                show Tm _ _ 125 b σ168 [(1, .int (iI v3)), (0, .ref b)] [] _
                have tr14 := tr13.join f170 ⟨f172.1, f172.2.1⟩ f173 f174 (by decide) hrd
                have gtj : GTm σ168 := by unfold GTm; rw [f172.2.2.1, f172.2.2.2, f172.1]; exact ⟨Or.inr rfl, fun _ => by omega⟩
                refine tm_iconst dX12_signed_125 ?_
                exact tm_zret (v := 1) rfl (by decide) dX12_signed_126 (⟨_, rfl, by omega, (((((Fr.rfl.trans (Fr.sub f106 (by decide) (by decide) (by decide))).trans (Fr.sub f139 (by decide) (by decide) (by decide))).trans (Fr.sub f147 (by decide) (by decide) (by decide))).trans (Fr.sub f158 (by decide) (by decide) (by decide))).trans (Fr.sub f170 (by decide) (by decide) (by decide))), f171, tr14.1, fun _ => tr14.exs (by decide) gtj (by rw [f170.1 28 (by decide)]; exact e28), tr14.prs, by rw [f170.1 28 (by decide)]; exact e28⟩)
            · refine tm_iconst dX12_signed_99 ?_
              exact tm_zret (v := 0) rfl (by decide) dX12_signed_100 (⟨_, rfl, by omega, ((((Fr.rfl.trans (Fr.sub f106 (by decide) (by decide) (by decide))).trans (Fr.sub f139 (by decide) (by decide) (by decide))).trans (Fr.sub f147 (by decide) (by decide) (by decide))).trans (Fr.sub f158 (by decide) (by decide) (by decide))), f159, (tr12.fail (PBF.of tr12.nn f158 (by decide) (by decide) (by decide) yn5) (fun q => gf_41 (yn4 (by omega)))).1, fun q => absurd q (by decide), PRS.no (tr12.fail (PBF.of tr12.nn f158 (by decide) (by decide) (by decide) yn5) (fun q => gf_41 (yn4 (by omega)))).2, by rw [f158.1 28 (by decide)]; exact e28x⟩)
      · refine tm_aload_n dX12_signed_46 rfl 1 rfl ?_
        refine tm_iconst dX12_signed_47 ?_
        refine tm_aload_n dX12_signed_48 rfl 1 rfl ?_
        refine tm_aload_n dX12_signed_49 rfl 1 rfl ?_
        refine tm_getW (t := σ103.2.2 24 0) dX12_signed_50 fl12_219 (rfl) ?_
        refine tm_aload_n dX12_signed_53 rfl 1 rfl ?_
        refine tm_getS (k := 19) (t := σ103.1 19) dX12_signed_54 (by decide) fl12_216 rfl (rfl) ?_
        have g175 := RG.s f107 19
        refine tm_callV (M := m_X12_signed) (pc := 57) (ix := 323) (M' := m_X12_nameOf) (As := [.long (σ103.2.2 24 0), .int (iI (σ103.1 19))]) (rest := [.int (iI 2), .ref b]) dX12_signed_57 ok_X12_nameOf im_X12_nameOf se_X12_nameOf ml12_323 np_X12_nameOf rfl rfl (Nat.le_of_ble_eq_true rfl) (Nat.le_of_ble_eq_true rfl) rfl (c_X12_nameOf (d + 4 * lv + 6) (σ := σ103) (w := σ103.2.2 24 0) (p := σ103.1 19) f107 tr10.nn (by have z := tr10.2.2.1.2.2.1; omega) (by omega)) (fun r176 σ177 hp => ?_)
        obtain ⟨v178, rfl, f179, f180, f181, f182⟩ := hp
        show Tm _ _ 60 b σ177 [(1, .int (iI v3)), (0, .ref b)] [.int (iI v178), .int (iI 2), .ref b] _
        have tr15 := tr10.keep f179 (by decide) (by decide) (by decide) f181
        have nv := f182
        have nw6 : NMW σ177 := by have z := inm (by omega); unfold NMW at *; rw [f179.1 22 (by decide), f179.2.2 24 (by decide)]; exact z
        refine tm_callV (M := m_X12_signed) (pc := 60) (ix := 301) (M' := m_X12_give) (As := [.int (iI 2), .int (iI v178)]) (rest := []) dX12_signed_60 ok_X12_give im_X12_give se_X12_give ml12_301 np_X12_give rfl rfl (Nat.le_of_ble_eq_true rfl) (Nat.le_of_ble_eq_true rfl) rfl (c2_X12_give (d + 4 * lv + 7) (σ := σ177) (k := 2) (w := v178) f180 (by omega) (by omega)) (fun r183 σ184 hp => ?_)
        obtain ⟨rfl, f186, f187, f188⟩ := hp
        show Tm _ _ 63 b σ184 [(1, .int (iI v3)), (0, .ref b)] [] _
        have tr16 := tr15.nop f186 (by decide) (by decide) (by decide) (by decide)
        have gv := f188
        have nw7 : NMW σ184 := by unfold NMW at *; rw [f186.1 22 (by decide), f186.2.2 24 (by decide)]; exact nw6
        refine tm_aload_n dX12_signed_63 rfl 1 rfl ?_
        refine tm_callV (M := m_X12_signed) (pc := 64) (ix := 265) (M' := m_X12_advance) (As := []) (rest := []) dX12_signed_64 ok_X12_advance im_X12_advance se_X12_advance ml12_265 np_X12_advance rfl rfl (Nat.le_of_ble_eq_true rfl) (Nat.le_of_ble_eq_true rfl) rfl (c_X12_advance (d + 4 * lv + 3) (σ := σ184)  f187 (by have z := tr16.2.2.1.1.1; omega)) (fun r189 σ190 hp => ?_)
        obtain ⟨rfl, f192, f193, f194, f195, f196⟩ := hp
        show Tm _ _ 67 b σ190 [(1, .int (iI v3)), (0, .ref b)] [] _
        have tr17 := tr16.adv f193 f195 f196 (by have := nw7.1; omega) (fun q => g1a (Or.inr nw7) f192)
        have rdg := tr17.2.2.1
        unfold RDY at rdg
        have gt : GTm σ190 := by unfold GTm; rw [f193.1 39 (by decide), f193.1 40 (by decide), gv.1, gv.2]; exact ⟨Or.inr rfl, fun _ => by omega⟩
        have e28 : σ190.1 28 = σ.1 28 := rs_F f193 (by decide) (rs_F f186 (by decide) (rs_F f179 (by decide) (rs_F f106 (by decide) (rfl))))
        refine tm_goto (tgt := 106) dX12_signed_67 (by decide) ?_
        have rdj := tr17.2.2.1.2
        have tkj := tr17.2.2.1.1.1
        refine tm_iload_n dX12_signed_106 rfl 0 rfl ?_
        refine tm_if_eq (tgt := 125) dX12_signed_107 (by decide) ⟨by omega, by omega⟩ (fun h197 => ?_) (fun h197 => ?_)
        · exact absurd h197 (by omega)
        · refine tm_aload_n dX12_signed_110 rfl 1 rfl ?_
          refine tm_iconst dX12_signed_111 ?_
          refine tm_iconst dX12_signed_112 ?_
          refine tm_iconst dX12_signed_113 ?_
          refine tm_aload_n dX12_signed_114 rfl 1 rfl ?_
          refine tm_getS (k := 39) (t := σ184.1 39) dX12_signed_115 (by decide) fl12_285 rfl (rs_F f193 (by decide) (rfl)) ?_
          have g198 := RG.s f187 39
          refine tm_aload_n dX12_signed_118 rfl 1 rfl ?_
          refine tm_getS (k := 40) (t := σ184.1 40) dX12_signed_119 (by decide) fl12_288 rfl (rs_F f193 (by decide) (rfl)) ?_
          have g199 := RG.s f187 40
          refine tm_callV (M := m_X12_signed) (pc := 122) (ix := 310) (M' := m_X12_joins) (As := [.int (iI 2), .int (iI 1), .int (iI 0), .int (iI (σ184.1 39)), .int (iI (σ184.1 40))]) (rest := []) dX12_signed_122 ok_X12_joins im_X12_joins se_X12_joins ml12_310 np_X12_joins rfl rfl (Nat.le_of_ble_eq_true rfl) (Nat.le_of_ble_eq_true rfl) rfl (c_X12_joins (d + 4 * lv + 5) (σ := σ190) (k := 2) (ak := 1) (a := 0) (bk := σ184.1 39) (c := σ184.1 40) f194 (by omega) (by decide) (by omega) (by have z := gt; unfold GTm at z; omega) (by omega) (by omega) (by omega)) (fun r200 σ201 hp => ?_)
          obtain ⟨rfl, f203, f204, f205, f206, f207⟩ := hp
          show Tm _ _ 125 b σ201 [(1, .int (iI v3)), (0, .ref b)] [] _
          have tr18 := tr17.join f203 ⟨f205.1, f205.2.1⟩ f206 f207 (by decide) hrd
          have gtj : GTm σ201 := by unfold GTm; rw [f205.2.2.1, f205.2.2.2, f205.1]; exact ⟨Or.inr rfl, fun _ => by omega⟩
          refine tm_iconst dX12_signed_125 ?_
          exact tm_zret (v := 1) rfl (by decide) dX12_signed_126 (⟨_, rfl, by omega, (((((Fr.rfl.trans (Fr.sub f106 (by decide) (by decide) (by decide))).trans (Fr.sub f179 (by decide) (by decide) (by decide))).trans (Fr.sub f186 (by decide) (by decide) (by decide))).trans (Fr.sub f193 (by decide) (by decide) (by decide))).trans (Fr.sub f203 (by decide) (by decide) (by decide))), f204, tr18.1, fun _ => tr18.exs (by decide) gtj (by rw [f203.1 28 (by decide)]; exact e28), tr18.prs, by rw [f203.1 28 (by decide)]; exact e28⟩)
    · refine tm_aload_n dX12_signed_23 rfl 1 rfl ?_
      refine tm_iconst dX12_signed_24 ?_
      refine tm_aload_n dX12_signed_25 rfl 1 rfl ?_
      refine tm_getS (k := 23) (t := σ103.1 23) dX12_signed_26 (by decide) fl12_223 rfl (rfl) ?_
      have g208 := RG.s f107 23
      refine tm_callV (M := m_X12_signed) (pc := 29) (ix := 301) (M' := m_X12_give) (As := [.int (iI 1), .int (iI (σ103.1 23))]) (rest := []) dX12_signed_29 ok_X12_give im_X12_give se_X12_give ml12_301 np_X12_give rfl rfl (Nat.le_of_ble_eq_true rfl) (Nat.le_of_ble_eq_true rfl) rfl (c2_X12_give (d + 4 * lv + 7) (σ := σ103) (k := 1) (w := σ103.1 23) f107 (by omega) (by omega)) (fun r209 σ210 hp => ?_)
      obtain ⟨rfl, f212, f213, f214⟩ := hp
      show Tm _ _ 32 b σ210 [(1, .int (iI v3)), (0, .ref b)] [] _
      have tr19 := tr10.nop f212 (by decide) (by decide) (by decide) (by decide)
      have gv := f214
      have so3 : σ210.1 22 = 3 := by rw [f212.1 22 (by decide)]; omega
      refine tm_aload_n dX12_signed_32 rfl 1 rfl ?_
      refine tm_callV (M := m_X12_signed) (pc := 33) (ix := 265) (M' := m_X12_advance) (As := []) (rest := []) dX12_signed_33 ok_X12_advance im_X12_advance se_X12_advance ml12_265 np_X12_advance rfl rfl (Nat.le_of_ble_eq_true rfl) (Nat.le_of_ble_eq_true rfl) rfl (c_X12_advance (d + 4 * lv + 3) (σ := σ210)  f213 (by have z := tr19.2.2.1.1.1; omega)) (fun r215 σ216 hp => ?_)
      obtain ⟨rfl, f218, f219, f220, f221, f222⟩ := hp
      show Tm _ _ 36 b σ216 [(1, .int (iI v3)), (0, .ref b)] [] _
      have tr20 := tr19.adv f219 f221 f222 (by omega) (fun q => g1a (Or.inl so3) f218)
      have gt : GTm σ216 := by unfold GTm; rw [f219.1 39 (by decide), f219.1 40 (by decide), gv.1]; exact ⟨Or.inl rfl, fun q => absurd q (by decide)⟩
      have e28 : σ216.1 28 = σ.1 28 := rs_F f219 (by decide) (rs_F f212 (by decide) (rs_F f106 (by decide) (rfl)))
      refine tm_goto (tgt := 106) dX12_signed_36 (by decide) ?_
      have rdj := tr20.2.2.1.2
      have tkj := tr20.2.2.1.1.1
      refine tm_iload_n dX12_signed_106 rfl 0 rfl ?_
      refine tm_if_eq (tgt := 125) dX12_signed_107 (by decide) ⟨by omega, by omega⟩ (fun h223 => ?_) (fun h223 => ?_)
      · exact absurd h223 (by omega)
      · refine tm_aload_n dX12_signed_110 rfl 1 rfl ?_
        refine tm_iconst dX12_signed_111 ?_
        refine tm_iconst dX12_signed_112 ?_
        refine tm_iconst dX12_signed_113 ?_
        refine tm_aload_n dX12_signed_114 rfl 1 rfl ?_
        refine tm_getS (k := 39) (t := σ210.1 39) dX12_signed_115 (by decide) fl12_285 rfl (rs_F f219 (by decide) (rfl)) ?_
        have g224 := RG.s f213 39
        refine tm_aload_n dX12_signed_118 rfl 1 rfl ?_
        refine tm_getS (k := 40) (t := σ210.1 40) dX12_signed_119 (by decide) fl12_288 rfl (rs_F f219 (by decide) (rfl)) ?_
        have g225 := RG.s f213 40
        refine tm_callV (M := m_X12_signed) (pc := 122) (ix := 310) (M' := m_X12_joins) (As := [.int (iI 2), .int (iI 1), .int (iI 0), .int (iI (σ210.1 39)), .int (iI (σ210.1 40))]) (rest := []) dX12_signed_122 ok_X12_joins im_X12_joins se_X12_joins ml12_310 np_X12_joins rfl rfl (Nat.le_of_ble_eq_true rfl) (Nat.le_of_ble_eq_true rfl) rfl (c_X12_joins (d + 4 * lv + 5) (σ := σ216) (k := 2) (ak := 1) (a := 0) (bk := σ210.1 39) (c := σ210.1 40) f220 (by omega) (by decide) (by omega) (by have z := gt; unfold GTm at z; omega) (by omega) (by omega) (by omega)) (fun r226 σ227 hp => ?_)
        obtain ⟨rfl, f229, f230, f231, f232, f233⟩ := hp
        show Tm _ _ 125 b σ227 [(1, .int (iI v3)), (0, .ref b)] [] _
        have tr21 := tr20.join f229 ⟨f231.1, f231.2.1⟩ f232 f233 (by decide) hrd
        have gtj : GTm σ227 := by unfold GTm; rw [f231.2.2.1, f231.2.2.2, f231.1]; exact ⟨Or.inr rfl, fun _ => by omega⟩
        refine tm_iconst dX12_signed_125 ?_
        exact tm_zret (v := 1) rfl (by decide) dX12_signed_126 (⟨_, rfl, by omega, ((((Fr.rfl.trans (Fr.sub f106 (by decide) (by decide) (by decide))).trans (Fr.sub f212 (by decide) (by decide) (by decide))).trans (Fr.sub f219 (by decide) (by decide) (by decide))).trans (Fr.sub f229 (by decide) (by decide) (by decide))), f230, tr21.1, fun _ => tr21.exs (by decide) gtj (by rw [f229.1 28 (by decide)]; exact e28), tr21.prs, by rw [f229.1 28 (by decide)]; exact e28⟩)
