/-! one road of the reader: what was used up, what was made, where the automaton stands -/
def PRS (k : Nat) (v : Int) (σ τ : MS) : Prop := (v = 1 → ∀ q, GOS [k] σ q [] τ q []) ∧ (v = 0 → ∀ q, GOF [k] σ q)
def EXS (σ τ : MS) : Prop := RDY τ ∧ PBC 2 σ τ ∧ GT τ ∧ AC σ τ ∧ τ.1 28 = σ.1 28
theorem RDY.of {n : Int} {σ τ : MS} (h : RDY σ) (e : τ.1 25 = σ.1 25 ∧ τ.1 30 = σ.1 30) (t : TOK τ) (c : PBC n σ τ) (hn : 0 ≤ n) : RDY τ := by
  unfold RDY at *
  unfold PBC at c
  refine ⟨t, ?_⟩
  obtain ⟨-, h⟩ := h
  omega
theorem PBC.adv {σ τ : MS} (f : Fr [19, 20, 22, 23] [] [24] σ τ) (h0 : σ.1 19 < σ.1 20) (p : σ.1 20 ≤ τ.1 19) : PBC 2 σ τ := by
  unfold PBC
  rw [f.1 34 (by decide), f.1 32 (by decide), f.1 31 (by decide), f.1 33 (by decide)]
  omega
def TR (k0 : Nat) (n : Int) (σ : MS) (ks : List Nat) (τ : MS) : Prop := PBF σ τ ∧ PBC n σ τ ∧ RDY τ ∧ AC σ τ ∧ ∀ q, GOS [k0] σ q ks τ q []
section TRS
variable {k0 k : Nat} {n : Int} {σ τ υ : MS} {rest new kk : List Nat}
theorem TR.start (hrd : RDY σ) (hnn : NN σ) : TR k0 0 σ [k0] σ := ⟨PBF.nop hnn (Fr.rfl : Fr [] [] [] σ σ) (by decide) (by decide) (by decide), PBC.nop (Fr.rfl : Fr [] [] [] σ σ) (by decide), hrd, AC.nil rfl, fun _ => GOS.nop rfl⟩
theorem TR.h30 (t : TR k0 n σ kk τ) : 0 ≤ σ.1 30 := by
  have a := t.1.2.2.2.2.2.2.2
  have b := t.2.2.1.2.2.1
  omega
theorem TR.nn (t : TR k0 n σ kk τ) : NN τ := t.1.2.2.1
theorem TR.nxt (t : TR k0 n σ (k :: rest) τ) (g : ∀ q, GOS [k] τ q new τ q []) : TR k0 n σ (new ++ rest) τ := ⟨t.1, t.2.1, t.2.2.1, t.2.2.2.1, fun q => (t.2.2.2.2 q).then ((g q).more rest)⟩
theorem TR.adv (t : TR k0 n σ (k :: rest) τ) (f : Fr [19, 20, 22, 23] [] [24] τ υ) (tok : TOK υ) (p : τ.1 20 ≤ υ.1 19) (hs : τ.1 22 ≠ 0) (g : ∀ q, GOS [k] τ q new υ q []) : TR k0 (n + 2) σ (new ++ rest) υ := by
  have h30 := t.h30
  obtain ⟨t1, t2, t3, t4, t5⟩ := t
  have pb : PBF τ υ := PBF.nop t1.2.2.1 f (by decide) (by decide) (by decide)
  have pc : PBC 2 τ υ := PBC.adv f (t3.1.2.1 hs) p
  exact ⟨t1.trans pb, t2.trans pc, RDY.of t3 ⟨pb.2.2.2.2.2.2.1, pb.2.2.2.2.2.2.2⟩ tok pc (by decide), t4.trans t1 (AC.nil (f.1 34 (by decide))) pb h30, fun q => (t5 q).then ((g q).more rest)⟩
theorem TR.sub (t : TR k0 n σ (k :: rest) τ) (pb : PBF τ υ) (e : EXS τ υ) (g : ∀ q, GOS [k] τ q [] υ q []) : TR k0 (n + 2) σ rest υ := by
  have h30 := t.h30
  obtain ⟨t1, t2, t3, t4, t5⟩ := t
  exact ⟨t1.trans pb, t2.trans e.2.1, e.1, t4.trans t1 e.2.2.2.1 pb h30, fun q => (t5 q).then ((g q).more rest)⟩
theorem TR.keep {ss ks js : List Nat} (t : TR k0 n σ kk τ) (f : Fr ss ks js τ υ) (hs : ∀ j ∈ [19, 20, 21, 22, 23, 25, 28, 29, 30, 31, 32, 33, 34], j ∉ ss) (hk : ∀ j ∈ [1, 3, 4, 5, 6, 7, 8], j ∉ ks) (hj : 24 ∉ js) (pb : PBF τ υ) : TR k0 n σ kk υ := by
  have h30 := t.h30
  obtain ⟨t1, t2, t3, t4, t5⟩ := t
  have e := fun j h => f.1 j (hs j h)
  have pc : PBC 0 τ υ := PBC.nop f (fun j q => hs j (by revert j q; decide))
  refine ⟨t1.trans pb, by have := t2.trans pc; rw [Int.add_zero] at this; exact this, RDY.of t3 ⟨pb.2.2.2.2.2.2.1, pb.2.2.2.2.2.2.2⟩ ?_ pc (by decide), t4.trans t1 (AC.nil (e 34 (by decide))) pb h30, fun q => (t5 q).last (vw_fr f (fun j q => hs j (by revert j q; decide)) (hk 1 (by decide)) hj)⟩
  unfold TOK
  rw [e 19 (by decide), e 20 (by decide), e 21 (by decide), e 22 (by decide), e 23 (by decide)]
  exact t3.1
theorem TR.nop {ss ks js : List Nat} (t : TR k0 n σ kk τ) (f : Fr ss ks js τ υ) (hs : ∀ j ∈ [19, 20, 21, 22, 23, 25, 26, 28, 29, 30, 31, 32, 33, 34], j ∉ ss) (hk : ∀ j ∈ [1, 3, 4, 5, 6, 7, 8, 35], j ∉ ks) (hj : 24 ∉ js) (hj2 : 38 ∉ js) : TR k0 n σ kk υ :=
  t.keep f (fun j q => hs j (by revert j q; decide)) (fun j q => hk j (by revert j q; decide)) hj (PBF.nop t.nn f (fun j q => hs j (by revert j q; decide)) (fun j q => hk j (by revert j q; decide)) hj2)
theorem TR.chg (t : TR k0 n σ (k :: rest) τ) (f : Fr [28] [] [] τ υ) (g : ∀ q, GOS [k] τ q new υ q []) : TR k0 n σ (new ++ rest) υ := by
  have h30 := t.h30
  obtain ⟨t1, t2, t3, t4, t5⟩ := t
  have pb : PBF τ υ := PBF.nop t1.2.2.1 f (by decide) (by decide) (by decide)
  have pc : PBC 0 τ υ := PBC.nop f (by decide)
  refine ⟨t1.trans pb, by have := t2.trans pc; rw [Int.add_zero] at this; exact this, RDY.of t3 ⟨pb.2.2.2.2.2.2.1, pb.2.2.2.2.2.2.2⟩ ?_ pc (by decide), t4.trans t1 (AC.nil (f.1 34 (by decide))) pb h30, fun q => (t5 q).then ((g q).more rest)⟩
  unfold TOK
  rw [f.1 19 (by decide), f.1 20 (by decide), f.1 21 (by decide), f.1 22 (by decide), f.1 23 (by decide)]
  exact t3.1
theorem TR.join (t : TR k0 n σ (51 :: rest) τ) (f : Fr [32, 34, 39, 40] [3, 4, 5, 6, 7, 8] [] τ υ) (e : υ.1 34 = τ.1 34 + 1 ∧ υ.1 32 = τ.1 32 + 1) (o : OFF (PXx τ) τ υ) (a : ACI υ (13 + τ.1 34) (PXx τ)) (hn : 1 ≤ n) (hrd : RDY σ) : TR k0 (n - 1) σ rest υ := by
  have h30 := t.h30
  obtain ⟨t1, t2, t3, t4, t5⟩ := t
  have pb : PBF τ υ := PBF.put t1.2.2.1 f (by decide) (by decide) (by decide) e.1 o
  have pc : PBC (-1) τ υ := by
    unfold PBC
    rw [f.1 19 (by decide), f.1 31 (by decide), f.1 33 (by decide), e.1, e.2]
    omega
  have pc2 : PBC (n - 1) σ υ := t2.trans pc
  have p2 := t1.trans pb
  refine ⟨p2, pc2, RDY.of hrd ⟨p2.2.2.2.2.2.2.1, p2.2.2.2.2.2.2.2⟩ ?_ pc2 (by omega), t4.trans t1 (AC.one e.1 (by rw [e.1, show 12 + (τ.1 34 + 1) = 13 + τ.1 34 by omega]; exact a)) pb h30, fun q => (t5 q).then ((g51 ⟨?_, ?_, sv_fr f (by decide) (by decide)⟩ : GOS [51] τ q [] υ q []).more rest)⟩
  · unfold TOK
    rw [f.1 19 (by decide), f.1 20 (by decide), f.1 21 (by decide), f.1 22 (by decide), f.1 23 (by decide)]
    exact t3.1
  · unfold tks
    rw [f.1 19 (by decide), f.1 20 (by decide), f.1 22 (by decide), f.1 23 (by decide), f.2.2 24 (by decide)]
  · unfold xs
    rw [f.1 28 (by decide), f.1 29 (by decide), e.1]
theorem TR.fail (t : TR k0 n σ (k :: rest) τ) (pb : PBF τ υ) (g : ∀ q, GOF [k] τ q) : PBF σ υ ∧ ∀ q, GOF [k0] σ q := ⟨t.1.trans pb, fun q => (t.2.2.2.2 q).fail ((g q).more rest)⟩
theorem TR.exs (t : TR k0 n σ [] τ) (hn : 2 ≤ n) (g : GT τ) (e : τ.1 28 = σ.1 28) : EXS σ τ := ⟨t.2.2.1, t.2.1.le hn, g, t.2.2.2.1, e⟩
theorem TR.prs (t : TR k0 n σ [] τ) : PRS k0 1 σ τ := ⟨fun _ => t.2.2.2.2, fun q => absurd q (by decide)⟩
theorem TR.le {m : Int} (t : TR k0 n σ kk τ) (h : m ≤ n) : TR k0 m σ kk τ := ⟨t.1, t.2.1.le h, t.2.2⟩
end TRS
theorem PRS.no {k : Nat} {σ τ : MS} (h : ∀ q, GOF [k] σ q) : PRS k 0 σ τ := ⟨fun q => absurd q (by decide), fun _ => h⟩
theorem GT.fr {ss ks js : List Nat} {σ τ : MS} (h : GT σ) (f : Fr ss ks js σ τ) (hs : ∀ k ∈ [34, 39, 40], k ∉ ss) : GT τ := by
  unfold GT
  rw [f.1 34 (hs 34 (by decide)), f.1 39 (hs 39 (by decide)), f.1 40 (hs 40 (by decide))]
  exact h
section TRC
variable {k0 k : Nat} {n m : Int} {σ τ υ : MS} {rest new : List Nat}
theorem TR.cat (t : TR k0 n σ (k :: rest) τ) (u : TR k m τ new υ) : TR k0 (n + m) σ (new ++ rest) υ := by
  have h30 := t.h30
  obtain ⟨t1, t2, t3, t4, t5⟩ := t
  obtain ⟨u1, u2, u3, u4, u5⟩ := u
  exact ⟨t1.trans u1, t2.trans u2, u3, t4.trans t1 u4 u1 h30, fun q => (t5 q).then ((u5 q).more rest)⟩
end TRC
theorem TR.needy {k0 k : Nat} {n : Int} {σ τ υ : MS} {rest new : List Nat} (t : TR k0 n σ (k :: rest) τ) (f : Fr [19, 20, 22, 23, 26, 27] [] [24] τ υ) (tok : TOK υ) (p : τ.1 20 ≤ υ.1 19) (h26 : υ.1 26 = τ.1 26) (hs : τ.1 22 ≠ 0) (g : ∀ q, GOS [k] τ q new υ q []) : TR k0 (n + 2) σ (new ++ rest) υ := by
  have h30 := t.h30
  obtain ⟨t1, t2, t3, t4, t5⟩ := t
  have pb : PBF τ υ := PBF.of t1.2.2.1 f (by decide) (by decide) (by decide) (by rw [h26]; exact id)
  have pc : PBC 2 τ υ := by
    have h0 := t3.1.2.1 hs
    unfold PBC
    rw [f.1 34 (by decide), f.1 32 (by decide), f.1 31 (by decide), f.1 33 (by decide)]
    omega
  exact ⟨t1.trans pb, t2.trans pc, RDY.of t3 ⟨pb.2.2.2.2.2.2.1, pb.2.2.2.2.2.2.2⟩ tok pc (by decide), t4.trans t1 (AC.nil (f.1 34 (by decide))) pb h30, fun q => (t5 q).then ((g q).more rest)⟩

theorem ml12_320 : Cond.methodLink RX12 320 yX12_isName ∈ pWW := pw8 (List.mem_of_getElem? (i := 152) rfl) rfl
theorem ml12_327 : Cond.methodLink RX12 327 yX12_expression ∈ pWW := pw8 (List.mem_of_getElem? (i := 217) rfl) rfl
theorem ml12_330 : Cond.methodLink RX12 330 yX12_need ∈ pWW := pw8 (List.mem_of_getElem? (i := 173) rfl) rfl
theorem ml12_323 : Cond.methodLink RX12 323 yX12_nameOf ∈ pWW := pw8 (List.mem_of_getElem? (i := 185) rfl) rfl
theorem ml12_310 : Cond.methodLink RX12 310 yX12_joins ∈ pWW := pw8 (List.mem_of_getElem? (i := 237) rfl) rfl
theorem dX12_signed_0 : decode cX12_signed 0 = .ok (.aload_n 0, 1) := by decide +kernel
theorem dX12_signed_1 : decode cX12_signed 1 = .ok (.bipush 45, 2) := by decide +kernel
theorem dX12_signed_3 : decode cX12_signed 3 = .ok (.invokevirtual 258, 3) := by decide +kernel
theorem dX12_signed_6 : decode cX12_signed 6 = .ok (.istore_n 1, 1) := by decide +kernel
theorem dX12_signed_7 : decode cX12_signed 7 = .ok (.iload_n 1, 1) := by decide +kernel
theorem dX12_signed_8 : decode cX12_signed 8 = .ok (.ifCond .eq 7, 3) := by decide +kernel
theorem dX12_signed_15 : decode cX12_signed 15 = .ok (.aload_n 0, 1) := by decide +kernel
theorem dX12_signed_16 : decode cX12_signed 16 = .ok (.getfield 226, 3) := by decide +kernel
theorem dX12_signed_19 : decode cX12_signed 19 = .ok (.iconst 3, 1) := by decide +kernel
theorem dX12_signed_20 : decode cX12_signed 20 = .ok (.if_icmp .ne 19, 3) := by decide +kernel
theorem dX12_signed_39 : decode cX12_signed 39 = .ok (.aload_n 0, 1) := by decide +kernel
theorem dX12_signed_40 : decode cX12_signed 40 = .ok (.invokevirtual 320, 3) := by decide +kernel
theorem dX12_signed_43 : decode cX12_signed 43 = .ok (.ifCond .eq 27, 3) := by decide +kernel
theorem dX12_signed_70 : decode cX12_signed 70 = .ok (.aload_n 0, 1) := by decide +kernel
theorem dX12_signed_71 : decode cX12_signed 71 = .ok (.bipush 40, 2) := by decide +kernel
theorem dX12_signed_73 : decode cX12_signed 73 = .ok (.invokevirtual 258, 3) := by decide +kernel
theorem dX12_signed_76 : decode cX12_signed 76 = .ok (.ifCond .eq 25, 3) := by decide +kernel
theorem dX12_signed_101 : decode cX12_signed 101 = .ok (.aload_n 0, 1) := by decide +kernel
theorem dX12_signed_102 : decode cX12_signed 102 = .ok (.invokevirtual 261, 3) := by decide +kernel
theorem dX12_signed_105 : decode cX12_signed 105 = .ok (.ireturn, 1) := by decide +kernel
theorem dX12_signed_79 : decode cX12_signed 79 = .ok (.aload_n 0, 1) := by decide +kernel
theorem dX12_signed_80 : decode cX12_signed 80 = .ok (.invokevirtual 265, 3) := by decide +kernel
theorem dX12_signed_83 : decode cX12_signed 83 = .ok (.aload_n 0, 1) := by decide +kernel
theorem dX12_signed_84 : decode cX12_signed 84 = .ok (.invokevirtual 327, 3) := by decide +kernel
theorem dX12_signed_87 : decode cX12_signed 87 = .ok (.ifCond .eq 12, 3) := by decide +kernel
theorem dX12_signed_99 : decode cX12_signed 99 = .ok (.iconst 0, 1) := by decide +kernel
theorem dX12_signed_100 : decode cX12_signed 100 = .ok (.ireturn, 1) := by decide +kernel
theorem dX12_signed_90 : decode cX12_signed 90 = .ok (.aload_n 0, 1) := by decide +kernel
theorem dX12_signed_91 : decode cX12_signed 91 = .ok (.bipush 41, 2) := by decide +kernel
theorem dX12_signed_93 : decode cX12_signed 93 = .ok (.invokevirtual 330, 3) := by decide +kernel
theorem dX12_signed_96 : decode cX12_signed 96 = .ok (.ifCond .ne 10, 3) := by decide +kernel
theorem dX12_signed_106 : decode cX12_signed 106 = .ok (.iload_n 1, 1) := by decide +kernel
theorem dX12_signed_107 : decode cX12_signed 107 = .ok (.ifCond .eq 18, 3) := by decide +kernel
theorem dX12_signed_125 : decode cX12_signed 125 = .ok (.iconst 1, 1) := by decide +kernel
theorem dX12_signed_126 : decode cX12_signed 126 = .ok (.ireturn, 1) := by decide +kernel
theorem dX12_signed_46 : decode cX12_signed 46 = .ok (.aload_n 0, 1) := by decide +kernel
theorem dX12_signed_47 : decode cX12_signed 47 = .ok (.iconst 2, 1) := by decide +kernel
theorem dX12_signed_48 : decode cX12_signed 48 = .ok (.aload_n 0, 1) := by decide +kernel
theorem dX12_signed_49 : decode cX12_signed 49 = .ok (.aload_n 0, 1) := by decide +kernel
theorem dX12_signed_50 : decode cX12_signed 50 = .ok (.getfield 219, 3) := by decide +kernel
theorem dX12_signed_53 : decode cX12_signed 53 = .ok (.aload_n 0, 1) := by decide +kernel
theorem dX12_signed_54 : decode cX12_signed 54 = .ok (.getfield 216, 3) := by decide +kernel
theorem dX12_signed_57 : decode cX12_signed 57 = .ok (.invokevirtual 323, 3) := by decide +kernel
theorem dX12_signed_60 : decode cX12_signed 60 = .ok (.invokevirtual 301, 3) := by decide +kernel
theorem dX12_signed_63 : decode cX12_signed 63 = .ok (.aload_n 0, 1) := by decide +kernel
theorem dX12_signed_64 : decode cX12_signed 64 = .ok (.invokevirtual 265, 3) := by decide +kernel
theorem dX12_signed_67 : decode cX12_signed 67 = .ok (.goto 39, 3) := by decide +kernel
theorem dX12_signed_23 : decode cX12_signed 23 = .ok (.aload_n 0, 1) := by decide +kernel
theorem dX12_signed_24 : decode cX12_signed 24 = .ok (.iconst 1, 1) := by decide +kernel
theorem dX12_signed_25 : decode cX12_signed 25 = .ok (.aload_n 0, 1) := by decide +kernel
theorem dX12_signed_26 : decode cX12_signed 26 = .ok (.getfield 223, 3) := by decide +kernel
theorem dX12_signed_29 : decode cX12_signed 29 = .ok (.invokevirtual 301, 3) := by decide +kernel
theorem dX12_signed_32 : decode cX12_signed 32 = .ok (.aload_n 0, 1) := by decide +kernel
theorem dX12_signed_33 : decode cX12_signed 33 = .ok (.invokevirtual 265, 3) := by decide +kernel
theorem dX12_signed_36 : decode cX12_signed 36 = .ok (.goto 70, 3) := by decide +kernel
theorem dX12_signed_11 : decode cX12_signed 11 = .ok (.aload_n 0, 1) := by decide +kernel
theorem dX12_signed_12 : decode cX12_signed 12 = .ok (.invokevirtual 265, 3) := by decide +kernel
theorem dX12_signed_110 : decode cX12_signed 110 = .ok (.aload_n 0, 1) := by decide +kernel
theorem dX12_signed_111 : decode cX12_signed 111 = .ok (.iconst 2, 1) := by decide +kernel
theorem dX12_signed_112 : decode cX12_signed 112 = .ok (.iconst 1, 1) := by decide +kernel
theorem dX12_signed_113 : decode cX12_signed 113 = .ok (.iconst 0, 1) := by decide +kernel
theorem dX12_signed_114 : decode cX12_signed 114 = .ok (.aload_n 0, 1) := by decide +kernel
theorem dX12_signed_115 : decode cX12_signed 115 = .ok (.getfield 285, 3) := by decide +kernel
theorem dX12_signed_118 : decode cX12_signed 118 = .ok (.aload_n 0, 1) := by decide +kernel
theorem dX12_signed_119 : decode cX12_signed 119 = .ok (.getfield 288, 3) := by decide +kernel
theorem dX12_signed_122 : decode cX12_signed 122 = .ok (.invokevirtual 310, 3) := by decide +kernel
set_option maxHeartbeats 4000000 in
set_option maxRecDepth 20000 in
theorem c_X12_signed (d : Nat) {b : Nat} {σ : MS} {lv : Nat} (hce : ∀ (d : Nat) {b : Nat} {σ : MS} (hR : RG σ) (hrd : RDY σ) (hnn : NN σ) (h28 : σ.1 28 = 8 - (lv : Int)), Tm (d + 4 * lv + 8) m_X12_expression 0 b σ [(0, .ref b)] [] (fun ro σ2 => ∃ v : Int, ro = some (.int (iI v)) ∧ ((v = 0 ∨ v = 1)) ∧ (Fr [19, 20, 22, 23, 26, 27, 28, 32, 34, 39, 40] [3, 4, 5, 6, 7, 8, 35] [24, 38] σ σ2) ∧ (RG σ2) ∧ (PBF σ σ2) ∧ (v = 1 → EXS σ σ2) ∧ (PRS 2 v σ σ2))) (hR : RG σ) (hrd : RDY σ) (hnn : NN σ) (h28 : σ.1 28 = 8 - (lv : Int)) : Tm (d + 4 * lv + 9) m_X12_signed 0 b σ [(0, .ref b)] [] (fun ro σ2 => ∃ v : Int, ro = some (.int (iI v)) ∧ ((v = 0 ∨ v = 1)) ∧ (Fr [19, 20, 22, 23, 26, 27, 28, 32, 34, 39, 40] [3, 4, 5, 6, 7, 8, 35] [24, 38] σ σ2) ∧ (RG σ2) ∧ (PBF σ σ2) ∧ (v = 1 → EXS σ σ2) ∧ (PRS 0 v σ σ2)) := by
  have tr0 : TR 0 0 σ [0] σ := TR.start hrd hnn
  refine tm_aload_n dX12_signed_0 rfl 0 rfl ?_
  refine tm_bipush dX12_signed_1 (by decide) ?_
  refine tm_callV (M' := m_X12_isSign) (As := [.int (iI 45)]) (rest := []) dX12_signed_3 ok_X12_isSign im_X12_isSign se_X12_isSign ml12_258 np_X12_isSign rfl rfl (Nat.le_of_ble_eq_true rfl) (Nat.le_of_ble_eq_true rfl) rfl (c2_X12_isSign (d + 4 * lv + 7) (σ := σ) (c := 45) hR (by omega)) (fun r1 σ2 hp => ?_)
  obtain ⟨v3, rfl, rfl, f4, f5, f6⟩ := hp
  show Tm _ _ 6 b σ [(0, .ref b)] [.int (iI v3)] _
  have i45 := f5
  have n45_ := f6
  refine tm_istore_n (L' := [(1, .int (iI v3)), (0, .ref b)]) dX12_signed_6 rfl (by decide) rfl ?_
  refine tm_iload_n dX12_signed_7 rfl 0 rfl ?_
  refine tm_if_eq (tgt := 15) dX12_signed_8 (by decide) ⟨by omega, by omega⟩ (fun h7 => ?_) (fun h7 => ?_)
  · have tr1 := tr0.nxt (fun q => g0n (n45_ (by omega)))
    refine tm_aload_n dX12_signed_15 rfl 1 rfl ?_
    refine tm_getS (k := 22) (t := σ.1 22) dX12_signed_16 (by decide) fl12_226 rfl (rfl) ?_
    have g8 := RG.s hR 22
    refine tm_iconst dX12_signed_19 ?_
    refine tm_icmp_ne (tgt := 39) dX12_signed_20 (by decide) ⟨by omega, by omega⟩ ⟨by decide, by decide⟩ (fun h9 => ?_) (fun h9 => ?_)
    · refine tm_aload_n dX12_signed_39 rfl 1 rfl ?_
      refine tm_callV (M' := m_X12_isName) (As := []) (rest := []) dX12_signed_40 ok_X12_isName im_X12_isName se_X12_isName ml12_320 np_X12_isName rfl rfl (Nat.le_of_ble_eq_true rfl) (Nat.le_of_ble_eq_true rfl) rfl (c2_X12_isName (d + 4 * lv + 7) (σ := σ)  hR) (fun r10 σ11 hp => ?_)
      obtain ⟨v12, rfl, rfl, f13, f14, f15⟩ := hp
      show Tm _ _ 43 b σ [(1, .int (iI v3)), (0, .ref b)] [.int (iI v12)] _
      have inm := f14
      have nnm_ := f15
      refine tm_if_eq (tgt := 70) dX12_signed_43 (by decide) ⟨by omega, by omega⟩ (fun h16 => ?_) (fun h16 => ?_)
      · refine tm_aload_n dX12_signed_70 rfl 1 rfl ?_
        refine tm_bipush dX12_signed_71 (by decide) ?_
        refine tm_callV (M' := m_X12_isSign) (As := [.int (iI 40)]) (rest := []) dX12_signed_73 ok_X12_isSign im_X12_isSign se_X12_isSign ml12_258 np_X12_isSign rfl rfl (Nat.le_of_ble_eq_true rfl) (Nat.le_of_ble_eq_true rfl) rfl (c2_X12_isSign (d + 4 * lv + 7) (σ := σ) (c := 40) hR (by omega)) (fun r17 σ18 hp => ?_)
        obtain ⟨v19, rfl, rfl, f20, f21, f22⟩ := hp
        show Tm _ _ 76 b σ [(1, .int (iI v3)), (0, .ref b)] [.int (iI v19)] _
        have i40 := f21
        have n40_ := f22
        refine tm_if_eq (tgt := 101) dX12_signed_76 (by decide) ⟨by omega, by omega⟩ (fun h23 => ?_) (fun h23 => ?_)
        · refine tm_aload_n dX12_signed_101 rfl 1 rfl ?_
          refine tm_callV (M' := m_X12_wrong) (As := []) (rest := []) dX12_signed_102 ok_X12_wrong im_X12_wrong se_X12_wrong ml12_261 np_X12_wrong rfl rfl (Nat.le_of_ble_eq_true rfl) (Nat.le_of_ble_eq_true rfl) rfl (c_X12_wrong (d + 4 * lv + 7) (σ := σ)  hR) (fun r24 σ25 hp => ?_)
          obtain ⟨v26, rfl, f27, f28, f29, f30, f31, f32⟩ := hp
          show Tm _ _ 105 b σ25 [(1, .int (iI v3)), (0, .ref b)] [.int (iI v26)] _
          exact tm_zret (v := v26) rfl (by omega) dX12_signed_105 (⟨_, rfl, by omega, (Fr.rfl.trans (Fr.sub f28 (by decide) (by decide) (by decide))), f29, (tr1.fail (PBF.of tr1.nn f28 (by decide) (by decide) (by decide) (fun _ => f30)) (fun q => g1f (by omega) (nnm_ (by omega)) (n40_ (by omega)))).1, fun q => absurd q (by omega), by rw [show v26 = 0 from f27]; exact PRS.no (tr1.fail (PBF.of tr1.nn f28 (by decide) (by decide) (by decide) (fun _ => f30)) (fun q => g1f (by omega) (nnm_ (by omega)) (n40_ (by omega)))).2⟩)
        · refine tm_aload_n dX12_signed_79 rfl 1 rfl ?_
          refine tm_callV (M' := m_X12_advance) (As := []) (rest := []) dX12_signed_80 ok_X12_advance im_X12_advance se_X12_advance ml12_265 np_X12_advance rfl rfl (Nat.le_of_ble_eq_true rfl) (Nat.le_of_ble_eq_true rfl) rfl (c_X12_advance (d + 4 * lv + 3) (σ := σ)  hR (by have z := tr1.2.2.1.1.1; omega)) (fun r33 σ34 hp => ?_)
          obtain ⟨rfl, f36, f37, f38, f39, f40⟩ := hp
          show Tm _ _ 83 b σ34 [(1, .int (iI v3)), (0, .ref b)] [] _
          have tr2 := tr1.adv f37 f39 f40 (by have z := (i40 (by omega)).1; omega) (fun q => g1p (by omega) (nnm_ (by omega)) (i40 (by omega)) f36)
          refine tm_aload_n dX12_signed_83 rfl 1 rfl ?_
          refine tm_callV (M' := m_X12_expression) (As := []) (rest := []) dX12_signed_84 ok_X12_expression im_X12_expression se_X12_expression ml12_327 np_X12_expression rfl rfl (Nat.le_of_ble_eq_true rfl) (Nat.le_of_ble_eq_true rfl) rfl (hce (d) (σ := σ34)  f38 tr2.2.2.1 tr2.nn (by rw [show σ34.1 28 = σ.1 28 from rs_F f37 (by decide) (rfl)]; exact h28)) (fun r41 σ42 hp => ?_)
          obtain ⟨v43, rfl, f44, f45, f46, f47, f48, f49⟩ := hp
          show Tm _ _ 87 b σ42 [(1, .int (iI v3)), (0, .ref b)] [.int (iI v43)] _
          have xp0 := f44
          have xp1 := f45
          have xp2 := f46
          have xp3 := f47
          have xp4 := f48
          have xp5 := f49
          refine tm_if_eq (tgt := 99) dX12_signed_87 (by decide) ⟨by omega, by omega⟩ (fun h50 => ?_) (fun h50 => ?_)
          · refine tm_iconst dX12_signed_99 ?_
            exact tm_zret (v := 0) rfl (by decide) dX12_signed_100 (⟨_, rfl, by omega, ((Fr.rfl.trans (Fr.sub f37 (by decide) (by decide) (by decide))).trans (Fr.sub f45 (by decide) (by decide) (by decide))), f46, (tr2.fail xp3 (xp5.2 (by omega))).1, fun q => absurd q (by decide), PRS.no (tr2.fail xp3 (xp5.2 (by omega))).2⟩)
          · have tr3 := tr2.sub xp3 (xp4 (by omega)) (xp5.1 (by omega))
            refine tm_aload_n dX12_signed_90 rfl 1 rfl ?_
            refine tm_bipush dX12_signed_91 (by decide) ?_
            refine tm_callV (M' := m_X12_need) (As := [.int (iI 41)]) (rest := []) dX12_signed_93 ok_X12_need im_X12_need se_X12_need ml12_330 np_X12_need rfl rfl (Nat.le_of_ble_eq_true rfl) (Nat.le_of_ble_eq_true rfl) rfl (c_X12_need (d + 4 * lv + 2) (σ := σ42) (c := 41) f46 (by have z := tr3.2.2.1.1.1; omega) (by omega)) (fun r51 σ52 hp => ?_)
            obtain ⟨v53, rfl, f54, f55, f56, f57, f58, f59⟩ := hp
            show Tm _ _ 96 b σ52 [(1, .int (iI v3)), (0, .ref b)] [.int (iI v53)] _
            have yn0 := f54
            have yn1 := f55
            have yn2 := f56
            have yn3 := f57
            have yn4 := f58
            have yn5 := f59
            refine tm_if_ne (tgt := 106) dX12_signed_96 (by decide) ⟨by omega, by omega⟩ (fun h60 => ?_) (fun h60 => ?_)
            · have ynq := yn3 (by omega)
              have tr4 := tr3.needy f55 ynq.2.2.1 ynq.2.2.2.1 ynq.2.2.2.2 (by have := ynq.1.1; omega) (fun q => gn_41 ynq.1 ynq.2.1)
              have gt : GT σ52 := (xp4 (by omega)).2.2.1.fr f55 (by decide)
              have gtr := (xp4 (by omega)).2.2.1
              unfold GT at gtr
              have k34 := f55.1 34 (by decide)
              have e28 : σ52.1 28 = σ.1 28 := by rw [f55.1 28 (by decide), (xp4 (by omega)).2.2.2.2]; exact (rs_F f37 (by decide) (rfl) : σ34.1 28 = σ.1 28)
              have rdj := tr4.2.2.1.2
              have tkj := tr4.2.2.1.1.1
              refine tm_iload_n dX12_signed_106 rfl 0 rfl ?_
              refine tm_if_eq (tgt := 125) dX12_signed_107 (by decide) ⟨by omega, by omega⟩ (fun h61 => ?_) (fun h61 => ?_)
              · refine tm_iconst dX12_signed_125 ?_
                exact tm_zret (v := 1) rfl (by decide) dX12_signed_126 (⟨_, rfl, by omega, (((Fr.rfl.trans (Fr.sub f37 (by decide) (by decide) (by decide))).trans (Fr.sub f45 (by decide) (by decide) (by decide))).trans (Fr.sub f55 (by decide) (by decide) (by decide))), f56, tr4.1, fun _ => tr4.exs (by decide) gt (e28), tr4.prs⟩)
              · exact absurd h61 (by omega)
            · refine tm_iconst dX12_signed_99 ?_
              exact tm_zret (v := 0) rfl (by decide) dX12_signed_100 (⟨_, rfl, by omega, (((Fr.rfl.trans (Fr.sub f37 (by decide) (by decide) (by decide))).trans (Fr.sub f45 (by decide) (by decide) (by decide))).trans (Fr.sub f55 (by decide) (by decide) (by decide))), f56, (tr3.fail (PBF.of tr3.nn f55 (by decide) (by decide) (by decide) yn5) (fun q => gf_41 (yn4 (by omega)))).1, fun q => absurd q (by decide), PRS.no (tr3.fail (PBF.of tr3.nn f55 (by decide) (by decide) (by decide) yn5) (fun q => gf_41 (yn4 (by omega)))).2⟩)
      · refine tm_aload_n dX12_signed_46 rfl 1 rfl ?_
        refine tm_iconst dX12_signed_47 ?_
        refine tm_aload_n dX12_signed_48 rfl 1 rfl ?_
        refine tm_aload_n dX12_signed_49 rfl 1 rfl ?_
        refine tm_getW (t := σ.2.2 24 0) dX12_signed_50 fl12_219 (rfl) ?_
        refine tm_aload_n dX12_signed_53 rfl 1 rfl ?_
        refine tm_getS (k := 19) (t := σ.1 19) dX12_signed_54 (by decide) fl12_216 rfl (rfl) ?_
        have g62 := RG.s hR 19
        refine tm_callV (M' := m_X12_nameOf) (As := [.long (σ.2.2 24 0), .int (iI (σ.1 19))]) (rest := [.int (iI 2), .ref b]) dX12_signed_57 ok_X12_nameOf im_X12_nameOf se_X12_nameOf ml12_323 np_X12_nameOf rfl rfl (Nat.le_of_ble_eq_true rfl) (Nat.le_of_ble_eq_true rfl) rfl (c_X12_nameOf (d + 4 * lv + 6) (σ := σ) (w := σ.2.2 24 0) (p := σ.1 19) hR tr1.nn (by have z := tr1.2.2.1.2.2.1; omega) (by omega)) (fun r63 σ64 hp => ?_)
        obtain ⟨v65, rfl, f66, f67, f68, f69⟩ := hp
        show Tm _ _ 60 b σ64 [(1, .int (iI v3)), (0, .ref b)] [.int (iI v65), .int (iI 2), .ref b] _
        have tr5 := tr1.keep f66 (by decide) (by decide) (by decide) f68
        have nv := f69
        have nw6 : NMW σ64 := by have z := inm (by omega); unfold NMW at *; rw [f66.1 22 (by decide), f66.2.2 24 (by decide)]; exact z
        refine tm_callV (M' := m_X12_give) (As := [.int (iI 2), .int (iI v65)]) (rest := []) dX12_signed_60 ok_X12_give im_X12_give se_X12_give ml12_301 np_X12_give rfl rfl (Nat.le_of_ble_eq_true rfl) (Nat.le_of_ble_eq_true rfl) rfl (c2_X12_give (d + 4 * lv + 7) (σ := σ64) (k := 2) (w := v65) f67 (by omega) (by omega)) (fun r70 σ71 hp => ?_)
        obtain ⟨rfl, f73, f74, f75⟩ := hp
        show Tm _ _ 63 b σ71 [(1, .int (iI v3)), (0, .ref b)] [] _
        have tr6 := tr5.nop f73 (by decide) (by decide) (by decide) (by decide)
        have gv := f75
        have nw7 : NMW σ71 := by unfold NMW at *; rw [f73.1 22 (by decide), f73.2.2 24 (by decide)]; exact nw6
        refine tm_aload_n dX12_signed_63 rfl 1 rfl ?_
        refine tm_callV (M' := m_X12_advance) (As := []) (rest := []) dX12_signed_64 ok_X12_advance im_X12_advance se_X12_advance ml12_265 np_X12_advance rfl rfl (Nat.le_of_ble_eq_true rfl) (Nat.le_of_ble_eq_true rfl) rfl (c_X12_advance (d + 4 * lv + 3) (σ := σ71)  f74 (by have z := tr6.2.2.1.1.1; omega)) (fun r76 σ77 hp => ?_)
        obtain ⟨rfl, f79, f80, f81, f82, f83⟩ := hp
        show Tm _ _ 67 b σ77 [(1, .int (iI v3)), (0, .ref b)] [] _
        have tr7 := tr6.adv f80 f82 f83 (by have := nw7.1; omega) (fun q => g1a (Or.inr nw7) f79)
        have rdg := tr7.2.2.1
        unfold RDY at rdg
        have gt : GT σ77 := by unfold GT; rw [f80.1 39 (by decide), f80.1 40 (by decide), gv.1, gv.2]; exact ⟨Or.inr rfl, fun _ => by omega⟩
        have e28 : σ77.1 28 = σ.1 28 := rs_F f80 (by decide) (rs_F f73 (by decide) (rs_F f66 (by decide) (rfl)))
        refine tm_goto (tgt := 106) dX12_signed_67 (by decide) ?_
        have rdj := tr7.2.2.1.2
        have tkj := tr7.2.2.1.1.1
        refine tm_iload_n dX12_signed_106 rfl 0 rfl ?_
        refine tm_if_eq (tgt := 125) dX12_signed_107 (by decide) ⟨by omega, by omega⟩ (fun h84 => ?_) (fun h84 => ?_)
        · refine tm_iconst dX12_signed_125 ?_
          exact tm_zret (v := 1) rfl (by decide) dX12_signed_126 (⟨_, rfl, by omega, (((Fr.rfl.trans (Fr.sub f66 (by decide) (by decide) (by decide))).trans (Fr.sub f73 (by decide) (by decide) (by decide))).trans (Fr.sub f80 (by decide) (by decide) (by decide))), f81, tr7.1, fun _ => tr7.exs (by decide) gt (e28), tr7.prs⟩)
        · exact absurd h84 (by omega)
    · refine tm_aload_n dX12_signed_23 rfl 1 rfl ?_
      refine tm_iconst dX12_signed_24 ?_
      refine tm_aload_n dX12_signed_25 rfl 1 rfl ?_
      refine tm_getS (k := 23) (t := σ.1 23) dX12_signed_26 (by decide) fl12_223 rfl (rfl) ?_
      have g85 := RG.s hR 23
      refine tm_callV (M' := m_X12_give) (As := [.int (iI 1), .int (iI (σ.1 23))]) (rest := []) dX12_signed_29 ok_X12_give im_X12_give se_X12_give ml12_301 np_X12_give rfl rfl (Nat.le_of_ble_eq_true rfl) (Nat.le_of_ble_eq_true rfl) rfl (c2_X12_give (d + 4 * lv + 7) (σ := σ) (k := 1) (w := σ.1 23) hR (by omega) (by omega)) (fun r86 σ87 hp => ?_)
      obtain ⟨rfl, f89, f90, f91⟩ := hp
      show Tm _ _ 32 b σ87 [(1, .int (iI v3)), (0, .ref b)] [] _
      have tr8 := tr1.nop f89 (by decide) (by decide) (by decide) (by decide)
      have gv := f91
      have so3 : σ87.1 22 = 3 := by rw [f89.1 22 (by decide)]; omega
      refine tm_aload_n dX12_signed_32 rfl 1 rfl ?_
      refine tm_callV (M' := m_X12_advance) (As := []) (rest := []) dX12_signed_33 ok_X12_advance im_X12_advance se_X12_advance ml12_265 np_X12_advance rfl rfl (Nat.le_of_ble_eq_true rfl) (Nat.le_of_ble_eq_true rfl) rfl (c_X12_advance (d + 4 * lv + 3) (σ := σ87)  f90 (by have z := tr8.2.2.1.1.1; omega)) (fun r92 σ93 hp => ?_)
      obtain ⟨rfl, f95, f96, f97, f98, f99⟩ := hp
      show Tm _ _ 36 b σ93 [(1, .int (iI v3)), (0, .ref b)] [] _
      have tr9 := tr8.adv f96 f98 f99 (by omega) (fun q => g1a (Or.inl so3) f95)
      have gt : GT σ93 := by unfold GT; rw [f96.1 39 (by decide), f96.1 40 (by decide), gv.1]; exact ⟨Or.inl rfl, fun q => absurd q (by decide)⟩
      have e28 : σ93.1 28 = σ.1 28 := rs_F f96 (by decide) (rs_F f89 (by decide) (rfl))
      refine tm_goto (tgt := 106) dX12_signed_36 (by decide) ?_
      have rdj := tr9.2.2.1.2
      have tkj := tr9.2.2.1.1.1
      refine tm_iload_n dX12_signed_106 rfl 0 rfl ?_
      refine tm_if_eq (tgt := 125) dX12_signed_107 (by decide) ⟨by omega, by omega⟩ (fun h100 => ?_) (fun h100 => ?_)
      · refine tm_iconst dX12_signed_125 ?_
        exact tm_zret (v := 1) rfl (by decide) dX12_signed_126 (⟨_, rfl, by omega, ((Fr.rfl.trans (Fr.sub f89 (by decide) (by decide) (by decide))).trans (Fr.sub f96 (by decide) (by decide) (by decide))), f97, tr9.1, fun _ => tr9.exs (by decide) gt (e28), tr9.prs⟩)
      · exact absurd h100 (by omega)
  · refine tm_aload_n dX12_signed_11 rfl 1 rfl ?_
    refine tm_callV (M' := m_X12_advance) (As := []) (rest := []) dX12_signed_12 ok_X12_advance im_X12_advance se_X12_advance ml12_265 np_X12_advance rfl rfl (Nat.le_of_ble_eq_true rfl) (Nat.le_of_ble_eq_true rfl) rfl (c_X12_advance (d + 4 * lv + 3) (σ := σ)  hR (by have z := tr0.2.2.1.1.1; omega)) (fun r101 σ102 hp => ?_)
    obtain ⟨rfl, f104, f105, f106, f107, f108⟩ := hp
    show Tm _ _ 15 b σ102 [(1, .int (iI v3)), (0, .ref b)] [] _
    have tr10 := tr0.adv f105 f107 f108 (by have z := (i45 (by omega)).1; omega) (fun q => g0m (i45 (by omega)) f104)
    refine tm_aload_n dX12_signed_15 rfl 1 rfl ?_
    refine tm_getS (k := 22) (t := σ102.1 22) dX12_signed_16 (by decide) fl12_226 rfl (rfl) ?_
    have g109 := RG.s f106 22
    refine tm_iconst dX12_signed_19 ?_
    refine tm_icmp_ne (tgt := 39) dX12_signed_20 (by decide) ⟨by omega, by omega⟩ ⟨by decide, by decide⟩ (fun h110 => ?_) (fun h110 => ?_)
    · refine tm_aload_n dX12_signed_39 rfl 1 rfl ?_
      refine tm_callV (M' := m_X12_isName) (As := []) (rest := []) dX12_signed_40 ok_X12_isName im_X12_isName se_X12_isName ml12_320 np_X12_isName rfl rfl (Nat.le_of_ble_eq_true rfl) (Nat.le_of_ble_eq_true rfl) rfl (c2_X12_isName (d + 4 * lv + 7) (σ := σ102)  f106) (fun r111 σ112 hp => ?_)
      obtain ⟨v113, rfl, rfl, f114, f115, f116⟩ := hp
      show Tm _ _ 43 b σ102 [(1, .int (iI v3)), (0, .ref b)] [.int (iI v113)] _
      have inm := f115
      have nnm_ := f116
      refine tm_if_eq (tgt := 70) dX12_signed_43 (by decide) ⟨by omega, by omega⟩ (fun h117 => ?_) (fun h117 => ?_)
      · refine tm_aload_n dX12_signed_70 rfl 1 rfl ?_
        refine tm_bipush dX12_signed_71 (by decide) ?_
        refine tm_callV (M' := m_X12_isSign) (As := [.int (iI 40)]) (rest := []) dX12_signed_73 ok_X12_isSign im_X12_isSign se_X12_isSign ml12_258 np_X12_isSign rfl rfl (Nat.le_of_ble_eq_true rfl) (Nat.le_of_ble_eq_true rfl) rfl (c2_X12_isSign (d + 4 * lv + 7) (σ := σ102) (c := 40) f106 (by omega)) (fun r118 σ119 hp => ?_)
        obtain ⟨v120, rfl, rfl, f121, f122, f123⟩ := hp
        show Tm _ _ 76 b σ102 [(1, .int (iI v3)), (0, .ref b)] [.int (iI v120)] _
        have i40 := f122
        have n40_ := f123
        refine tm_if_eq (tgt := 101) dX12_signed_76 (by decide) ⟨by omega, by omega⟩ (fun h124 => ?_) (fun h124 => ?_)
        · refine tm_aload_n dX12_signed_101 rfl 1 rfl ?_
          refine tm_callV (M' := m_X12_wrong) (As := []) (rest := []) dX12_signed_102 ok_X12_wrong im_X12_wrong se_X12_wrong ml12_261 np_X12_wrong rfl rfl (Nat.le_of_ble_eq_true rfl) (Nat.le_of_ble_eq_true rfl) rfl (c_X12_wrong (d + 4 * lv + 7) (σ := σ102)  f106) (fun r125 σ126 hp => ?_)
          obtain ⟨v127, rfl, f128, f129, f130, f131, f132, f133⟩ := hp
          show Tm _ _ 105 b σ126 [(1, .int (iI v3)), (0, .ref b)] [.int (iI v127)] _
          exact tm_zret (v := v127) rfl (by omega) dX12_signed_105 (⟨_, rfl, by omega, ((Fr.rfl.trans (Fr.sub f105 (by decide) (by decide) (by decide))).trans (Fr.sub f129 (by decide) (by decide) (by decide))), f130, (tr10.fail (PBF.of tr10.nn f129 (by decide) (by decide) (by decide) (fun _ => f131)) (fun q => g1f (by omega) (nnm_ (by omega)) (n40_ (by omega)))).1, fun q => absurd q (by omega), by rw [show v127 = 0 from f128]; exact PRS.no (tr10.fail (PBF.of tr10.nn f129 (by decide) (by decide) (by decide) (fun _ => f131)) (fun q => g1f (by omega) (nnm_ (by omega)) (n40_ (by omega)))).2⟩)
        · refine tm_aload_n dX12_signed_79 rfl 1 rfl ?_
          refine tm_callV (M' := m_X12_advance) (As := []) (rest := []) dX12_signed_80 ok_X12_advance im_X12_advance se_X12_advance ml12_265 np_X12_advance rfl rfl (Nat.le_of_ble_eq_true rfl) (Nat.le_of_ble_eq_true rfl) rfl (c_X12_advance (d + 4 * lv + 3) (σ := σ102)  f106 (by have z := tr10.2.2.1.1.1; omega)) (fun r134 σ135 hp => ?_)
          obtain ⟨rfl, f137, f138, f139, f140, f141⟩ := hp
          show Tm _ _ 83 b σ135 [(1, .int (iI v3)), (0, .ref b)] [] _
          have tr11 := tr10.adv f138 f140 f141 (by have z := (i40 (by omega)).1; omega) (fun q => g1p (by omega) (nnm_ (by omega)) (i40 (by omega)) f137)
          refine tm_aload_n dX12_signed_83 rfl 1 rfl ?_
          refine tm_callV (M' := m_X12_expression) (As := []) (rest := []) dX12_signed_84 ok_X12_expression im_X12_expression se_X12_expression ml12_327 np_X12_expression rfl rfl (Nat.le_of_ble_eq_true rfl) (Nat.le_of_ble_eq_true rfl) rfl (hce (d) (σ := σ135)  f139 tr11.2.2.1 tr11.nn (by rw [show σ135.1 28 = σ.1 28 from rs_F f138 (by decide) (rs_F f105 (by decide) (rfl))]; exact h28)) (fun r142 σ143 hp => ?_)
          obtain ⟨v144, rfl, f145, f146, f147, f148, f149, f150⟩ := hp
          show Tm _ _ 87 b σ143 [(1, .int (iI v3)), (0, .ref b)] [.int (iI v144)] _
          have xp0 := f145
          have xp1 := f146
          have xp2 := f147
          have xp3 := f148
          have xp4 := f149
          have xp5 := f150
          refine tm_if_eq (tgt := 99) dX12_signed_87 (by decide) ⟨by omega, by omega⟩ (fun h151 => ?_) (fun h151 => ?_)
          · refine tm_iconst dX12_signed_99 ?_
            exact tm_zret (v := 0) rfl (by decide) dX12_signed_100 (⟨_, rfl, by omega, (((Fr.rfl.trans (Fr.sub f105 (by decide) (by decide) (by decide))).trans (Fr.sub f138 (by decide) (by decide) (by decide))).trans (Fr.sub f146 (by decide) (by decide) (by decide))), f147, (tr11.fail xp3 (xp5.2 (by omega))).1, fun q => absurd q (by decide), PRS.no (tr11.fail xp3 (xp5.2 (by omega))).2⟩)
          · have tr12 := tr11.sub xp3 (xp4 (by omega)) (xp5.1 (by omega))
            refine tm_aload_n dX12_signed_90 rfl 1 rfl ?_
            refine tm_bipush dX12_signed_91 (by decide) ?_
            refine tm_callV (M' := m_X12_need) (As := [.int (iI 41)]) (rest := []) dX12_signed_93 ok_X12_need im_X12_need se_X12_need ml12_330 np_X12_need rfl rfl (Nat.le_of_ble_eq_true rfl) (Nat.le_of_ble_eq_true rfl) rfl (c_X12_need (d + 4 * lv + 2) (σ := σ143) (c := 41) f147 (by have z := tr12.2.2.1.1.1; omega) (by omega)) (fun r152 σ153 hp => ?_)
            obtain ⟨v154, rfl, f155, f156, f157, f158, f159, f160⟩ := hp
            show Tm _ _ 96 b σ153 [(1, .int (iI v3)), (0, .ref b)] [.int (iI v154)] _
            have yn0 := f155
            have yn1 := f156
            have yn2 := f157
            have yn3 := f158
            have yn4 := f159
            have yn5 := f160
            refine tm_if_ne (tgt := 106) dX12_signed_96 (by decide) ⟨by omega, by omega⟩ (fun h161 => ?_) (fun h161 => ?_)
            · have ynq := yn3 (by omega)
              have tr13 := tr12.needy f156 ynq.2.2.1 ynq.2.2.2.1 ynq.2.2.2.2 (by have := ynq.1.1; omega) (fun q => gn_41 ynq.1 ynq.2.1)
              have gt : GT σ153 := (xp4 (by omega)).2.2.1.fr f156 (by decide)
              have gtr := (xp4 (by omega)).2.2.1
              unfold GT at gtr
              have k34 := f156.1 34 (by decide)
              have e28 : σ153.1 28 = σ.1 28 := by rw [f156.1 28 (by decide), (xp4 (by omega)).2.2.2.2]; exact (rs_F f138 (by decide) (rs_F f105 (by decide) (rfl)) : σ135.1 28 = σ.1 28)
              have rdj := tr13.2.2.1.2
              have tkj := tr13.2.2.1.1.1
              refine tm_iload_n dX12_signed_106 rfl 0 rfl ?_
              refine tm_if_eq (tgt := 125) dX12_signed_107 (by decide) ⟨by omega, by omega⟩ (fun h162 => ?_) (fun h162 => ?_)
              · exact absurd h162 (by omega)
              · refine tm_aload_n dX12_signed_110 rfl 1 rfl ?_
                refine tm_iconst dX12_signed_111 ?_
                refine tm_iconst dX12_signed_112 ?_
                refine tm_iconst dX12_signed_113 ?_
                refine tm_aload_n dX12_signed_114 rfl 1 rfl ?_
                refine tm_getS (k := 39) (t := σ143.1 39) dX12_signed_115 (by decide) fl12_285 rfl (rs_F f156 (by decide) (rfl)) ?_
                have g163 := RG.s f147 39
                refine tm_aload_n dX12_signed_118 rfl 1 rfl ?_
                refine tm_getS (k := 40) (t := σ143.1 40) dX12_signed_119 (by decide) fl12_288 rfl (rs_F f156 (by decide) (rfl)) ?_
                have g164 := RG.s f147 40
                refine tm_callV (M' := m_X12_joins) (As := [.int (iI 2), .int (iI 1), .int (iI 0), .int (iI (σ143.1 39)), .int (iI (σ143.1 40))]) (rest := []) dX12_signed_122 ok_X12_joins im_X12_joins se_X12_joins ml12_310 np_X12_joins rfl rfl (Nat.le_of_ble_eq_true rfl) (Nat.le_of_ble_eq_true rfl) rfl (c_X12_joins (d + 4 * lv + 5) (σ := σ153) (k := 2) (ak := 1) (a := 0) (bk := σ143.1 39) (c := σ143.1 40) f157 (by omega) (by decide) (by omega) (by have z := gt; unfold GT at z; omega) (by omega) (by omega) (by omega)) (fun r165 σ166 hp => ?_)
                obtain ⟨rfl, f168, f169, f170, f171, f172⟩ := hp
                show Tm _ _ 125 b σ166 [(1, .int (iI v3)), (0, .ref b)] [] _
                have tr14 := tr13.join f168 ⟨f170.1, f170.2.1⟩ f171 f172 (by decide) hrd
                have gtj : GT σ166 := by unfold GT; rw [f170.2.2.1, f170.2.2.2, f170.1]; exact ⟨Or.inr rfl, fun _ => by omega⟩
                refine tm_iconst dX12_signed_125 ?_
                exact tm_zret (v := 1) rfl (by decide) dX12_signed_126 (⟨_, rfl, by omega, (((((Fr.rfl.trans (Fr.sub f105 (by decide) (by decide) (by decide))).trans (Fr.sub f138 (by decide) (by decide) (by decide))).trans (Fr.sub f146 (by decide) (by decide) (by decide))).trans (Fr.sub f156 (by decide) (by decide) (by decide))).trans (Fr.sub f168 (by decide) (by decide) (by decide))), f169, tr14.1, fun _ => tr14.exs (by decide) gtj (by rw [f168.1 28 (by decide)]; exact e28), tr14.prs⟩)
            · refine tm_iconst dX12_signed_99 ?_
              exact tm_zret (v := 0) rfl (by decide) dX12_signed_100 (⟨_, rfl, by omega, ((((Fr.rfl.trans (Fr.sub f105 (by decide) (by decide) (by decide))).trans (Fr.sub f138 (by decide) (by decide) (by decide))).trans (Fr.sub f146 (by decide) (by decide) (by decide))).trans (Fr.sub f156 (by decide) (by decide) (by decide))), f157, (tr12.fail (PBF.of tr12.nn f156 (by decide) (by decide) (by decide) yn5) (fun q => gf_41 (yn4 (by omega)))).1, fun q => absurd q (by decide), PRS.no (tr12.fail (PBF.of tr12.nn f156 (by decide) (by decide) (by decide) yn5) (fun q => gf_41 (yn4 (by omega)))).2⟩)
      · refine tm_aload_n dX12_signed_46 rfl 1 rfl ?_
        refine tm_iconst dX12_signed_47 ?_
        refine tm_aload_n dX12_signed_48 rfl 1 rfl ?_
        refine tm_aload_n dX12_signed_49 rfl 1 rfl ?_
        refine tm_getW (t := σ102.2.2 24 0) dX12_signed_50 fl12_219 (rfl) ?_
        refine tm_aload_n dX12_signed_53 rfl 1 rfl ?_
        refine tm_getS (k := 19) (t := σ102.1 19) dX12_signed_54 (by decide) fl12_216 rfl (rfl) ?_
        have g173 := RG.s f106 19
        refine tm_callV (M' := m_X12_nameOf) (As := [.long (σ102.2.2 24 0), .int (iI (σ102.1 19))]) (rest := [.int (iI 2), .ref b]) dX12_signed_57 ok_X12_nameOf im_X12_nameOf se_X12_nameOf ml12_323 np_X12_nameOf rfl rfl (Nat.le_of_ble_eq_true rfl) (Nat.le_of_ble_eq_true rfl) rfl (c_X12_nameOf (d + 4 * lv + 6) (σ := σ102) (w := σ102.2.2 24 0) (p := σ102.1 19) f106 tr10.nn (by have z := tr10.2.2.1.2.2.1; omega) (by omega)) (fun r174 σ175 hp => ?_)
        obtain ⟨v176, rfl, f177, f178, f179, f180⟩ := hp
        show Tm _ _ 60 b σ175 [(1, .int (iI v3)), (0, .ref b)] [.int (iI v176), .int (iI 2), .ref b] _
        have tr15 := tr10.keep f177 (by decide) (by decide) (by decide) f179
        have nv := f180
        have nw6 : NMW σ175 := by have z := inm (by omega); unfold NMW at *; rw [f177.1 22 (by decide), f177.2.2 24 (by decide)]; exact z
        refine tm_callV (M' := m_X12_give) (As := [.int (iI 2), .int (iI v176)]) (rest := []) dX12_signed_60 ok_X12_give im_X12_give se_X12_give ml12_301 np_X12_give rfl rfl (Nat.le_of_ble_eq_true rfl) (Nat.le_of_ble_eq_true rfl) rfl (c2_X12_give (d + 4 * lv + 7) (σ := σ175) (k := 2) (w := v176) f178 (by omega) (by omega)) (fun r181 σ182 hp => ?_)
        obtain ⟨rfl, f184, f185, f186⟩ := hp
        show Tm _ _ 63 b σ182 [(1, .int (iI v3)), (0, .ref b)] [] _
        have tr16 := tr15.nop f184 (by decide) (by decide) (by decide) (by decide)
        have gv := f186
        have nw7 : NMW σ182 := by unfold NMW at *; rw [f184.1 22 (by decide), f184.2.2 24 (by decide)]; exact nw6
        refine tm_aload_n dX12_signed_63 rfl 1 rfl ?_
        refine tm_callV (M' := m_X12_advance) (As := []) (rest := []) dX12_signed_64 ok_X12_advance im_X12_advance se_X12_advance ml12_265 np_X12_advance rfl rfl (Nat.le_of_ble_eq_true rfl) (Nat.le_of_ble_eq_true rfl) rfl (c_X12_advance (d + 4 * lv + 3) (σ := σ182)  f185 (by have z := tr16.2.2.1.1.1; omega)) (fun r187 σ188 hp => ?_)
        obtain ⟨rfl, f190, f191, f192, f193, f194⟩ := hp
        show Tm _ _ 67 b σ188 [(1, .int (iI v3)), (0, .ref b)] [] _
        have tr17 := tr16.adv f191 f193 f194 (by have := nw7.1; omega) (fun q => g1a (Or.inr nw7) f190)
        have rdg := tr17.2.2.1
        unfold RDY at rdg
        have gt : GT σ188 := by unfold GT; rw [f191.1 39 (by decide), f191.1 40 (by decide), gv.1, gv.2]; exact ⟨Or.inr rfl, fun _ => by omega⟩
        have e28 : σ188.1 28 = σ.1 28 := rs_F f191 (by decide) (rs_F f184 (by decide) (rs_F f177 (by decide) (rs_F f105 (by decide) (rfl))))
        refine tm_goto (tgt := 106) dX12_signed_67 (by decide) ?_
        have rdj := tr17.2.2.1.2
        have tkj := tr17.2.2.1.1.1
        refine tm_iload_n dX12_signed_106 rfl 0 rfl ?_
        refine tm_if_eq (tgt := 125) dX12_signed_107 (by decide) ⟨by omega, by omega⟩ (fun h195 => ?_) (fun h195 => ?_)
        · exact absurd h195 (by omega)
        · refine tm_aload_n dX12_signed_110 rfl 1 rfl ?_
          refine tm_iconst dX12_signed_111 ?_
          refine tm_iconst dX12_signed_112 ?_
          refine tm_iconst dX12_signed_113 ?_
          refine tm_aload_n dX12_signed_114 rfl 1 rfl ?_
          refine tm_getS (k := 39) (t := σ182.1 39) dX12_signed_115 (by decide) fl12_285 rfl (rs_F f191 (by decide) (rfl)) ?_
          have g196 := RG.s f185 39
          refine tm_aload_n dX12_signed_118 rfl 1 rfl ?_
          refine tm_getS (k := 40) (t := σ182.1 40) dX12_signed_119 (by decide) fl12_288 rfl (rs_F f191 (by decide) (rfl)) ?_
          have g197 := RG.s f185 40
          refine tm_callV (M' := m_X12_joins) (As := [.int (iI 2), .int (iI 1), .int (iI 0), .int (iI (σ182.1 39)), .int (iI (σ182.1 40))]) (rest := []) dX12_signed_122 ok_X12_joins im_X12_joins se_X12_joins ml12_310 np_X12_joins rfl rfl (Nat.le_of_ble_eq_true rfl) (Nat.le_of_ble_eq_true rfl) rfl (c_X12_joins (d + 4 * lv + 5) (σ := σ188) (k := 2) (ak := 1) (a := 0) (bk := σ182.1 39) (c := σ182.1 40) f192 (by omega) (by decide) (by omega) (by have z := gt; unfold GT at z; omega) (by omega) (by omega) (by omega)) (fun r198 σ199 hp => ?_)
          obtain ⟨rfl, f201, f202, f203, f204, f205⟩ := hp
          show Tm _ _ 125 b σ199 [(1, .int (iI v3)), (0, .ref b)] [] _
          have tr18 := tr17.join f201 ⟨f203.1, f203.2.1⟩ f204 f205 (by decide) hrd
          have gtj : GT σ199 := by unfold GT; rw [f203.2.2.1, f203.2.2.2, f203.1]; exact ⟨Or.inr rfl, fun _ => by omega⟩
          refine tm_iconst dX12_signed_125 ?_
          exact tm_zret (v := 1) rfl (by decide) dX12_signed_126 (⟨_, rfl, by omega, (((((Fr.rfl.trans (Fr.sub f105 (by decide) (by decide) (by decide))).trans (Fr.sub f177 (by decide) (by decide) (by decide))).trans (Fr.sub f184 (by decide) (by decide) (by decide))).trans (Fr.sub f191 (by decide) (by decide) (by decide))).trans (Fr.sub f201 (by decide) (by decide) (by decide))), f202, tr18.1, fun _ => tr18.exs (by decide) gtj (by rw [f201.1 28 (by decide)]; exact e28), tr18.prs⟩)
    · refine tm_aload_n dX12_signed_23 rfl 1 rfl ?_
      refine tm_iconst dX12_signed_24 ?_
      refine tm_aload_n dX12_signed_25 rfl 1 rfl ?_
      refine tm_getS (k := 23) (t := σ102.1 23) dX12_signed_26 (by decide) fl12_223 rfl (rfl) ?_
      have g206 := RG.s f106 23
      refine tm_callV (M' := m_X12_give) (As := [.int (iI 1), .int (iI (σ102.1 23))]) (rest := []) dX12_signed_29 ok_X12_give im_X12_give se_X12_give ml12_301 np_X12_give rfl rfl (Nat.le_of_ble_eq_true rfl) (Nat.le_of_ble_eq_true rfl) rfl (c2_X12_give (d + 4 * lv + 7) (σ := σ102) (k := 1) (w := σ102.1 23) f106 (by omega) (by omega)) (fun r207 σ208 hp => ?_)
      obtain ⟨rfl, f210, f211, f212⟩ := hp
      show Tm _ _ 32 b σ208 [(1, .int (iI v3)), (0, .ref b)] [] _
      have tr19 := tr10.nop f210 (by decide) (by decide) (by decide) (by decide)
      have gv := f212
      have so3 : σ208.1 22 = 3 := by rw [f210.1 22 (by decide)]; omega
      refine tm_aload_n dX12_signed_32 rfl 1 rfl ?_
      refine tm_callV (M' := m_X12_advance) (As := []) (rest := []) dX12_signed_33 ok_X12_advance im_X12_advance se_X12_advance ml12_265 np_X12_advance rfl rfl (Nat.le_of_ble_eq_true rfl) (Nat.le_of_ble_eq_true rfl) rfl (c_X12_advance (d + 4 * lv + 3) (σ := σ208)  f211 (by have z := tr19.2.2.1.1.1; omega)) (fun r213 σ214 hp => ?_)
      obtain ⟨rfl, f216, f217, f218, f219, f220⟩ := hp
      show Tm _ _ 36 b σ214 [(1, .int (iI v3)), (0, .ref b)] [] _
      have tr20 := tr19.adv f217 f219 f220 (by omega) (fun q => g1a (Or.inl so3) f216)
      have gt : GT σ214 := by unfold GT; rw [f217.1 39 (by decide), f217.1 40 (by decide), gv.1]; exact ⟨Or.inl rfl, fun q => absurd q (by decide)⟩
      have e28 : σ214.1 28 = σ.1 28 := rs_F f217 (by decide) (rs_F f210 (by decide) (rs_F f105 (by decide) (rfl)))
      refine tm_goto (tgt := 106) dX12_signed_36 (by decide) ?_
      have rdj := tr20.2.2.1.2
      have tkj := tr20.2.2.1.1.1
      refine tm_iload_n dX12_signed_106 rfl 0 rfl ?_
      refine tm_if_eq (tgt := 125) dX12_signed_107 (by decide) ⟨by omega, by omega⟩ (fun h221 => ?_) (fun h221 => ?_)
      · exact absurd h221 (by omega)
      · refine tm_aload_n dX12_signed_110 rfl 1 rfl ?_
        refine tm_iconst dX12_signed_111 ?_
        refine tm_iconst dX12_signed_112 ?_
        refine tm_iconst dX12_signed_113 ?_
        refine tm_aload_n dX12_signed_114 rfl 1 rfl ?_
        refine tm_getS (k := 39) (t := σ208.1 39) dX12_signed_115 (by decide) fl12_285 rfl (rs_F f217 (by decide) (rfl)) ?_
        have g222 := RG.s f211 39
        refine tm_aload_n dX12_signed_118 rfl 1 rfl ?_
        refine tm_getS (k := 40) (t := σ208.1 40) dX12_signed_119 (by decide) fl12_288 rfl (rs_F f217 (by decide) (rfl)) ?_
        have g223 := RG.s f211 40
        refine tm_callV (M' := m_X12_joins) (As := [.int (iI 2), .int (iI 1), .int (iI 0), .int (iI (σ208.1 39)), .int (iI (σ208.1 40))]) (rest := []) dX12_signed_122 ok_X12_joins im_X12_joins se_X12_joins ml12_310 np_X12_joins rfl rfl (Nat.le_of_ble_eq_true rfl) (Nat.le_of_ble_eq_true rfl) rfl (c_X12_joins (d + 4 * lv + 5) (σ := σ214) (k := 2) (ak := 1) (a := 0) (bk := σ208.1 39) (c := σ208.1 40) f218 (by omega) (by decide) (by omega) (by have z := gt; unfold GT at z; omega) (by omega) (by omega) (by omega)) (fun r224 σ225 hp => ?_)
        obtain ⟨rfl, f227, f228, f229, f230, f231⟩ := hp
        show Tm _ _ 125 b σ225 [(1, .int (iI v3)), (0, .ref b)] [] _
        have tr21 := tr20.join f227 ⟨f229.1, f229.2.1⟩ f230 f231 (by decide) hrd
        have gtj : GT σ225 := by unfold GT; rw [f229.2.2.1, f229.2.2.2, f229.1]; exact ⟨Or.inr rfl, fun _ => by omega⟩
        refine tm_iconst dX12_signed_125 ?_
        exact tm_zret (v := 1) rfl (by decide) dX12_signed_126 (⟨_, rfl, by omega, ((((Fr.rfl.trans (Fr.sub f105 (by decide) (by decide) (by decide))).trans (Fr.sub f210 (by decide) (by decide) (by decide))).trans (Fr.sub f217 (by decide) (by decide) (by decide))).trans (Fr.sub f227 (by decide) (by decide) (by decide))), f228, tr21.1, fun _ => tr21.exs (by decide) gtj (by rw [f227.1 28 (by decide)]; exact e28), tr21.prs⟩)
