section
section GI
variable {a b c : List Nat} {σ τ υ : MS} {q q1 q2 : QR} {l1 : List EV}
end GI
section TAGW
variable {σ τ : MS} {q : QR}
end TAGW
theorem NMZ.one {σ : MS} {w : Int64} {v u : Int} (h : NMZ σ w v) (g : NMZ σ w u) : v = u := by
  rcases h with ⟨a1, a2, a3, a4⟩ | ⟨a1, a2⟩
  · rcases g with ⟨b1, b2, b3, b4⟩ | ⟨b1, b2⟩
    · by_cases c : v < u
      · exact absurd a3 (b4 v a1 c)
      · by_cases c2 : u < v
        · exact absurd b3 (a4 u b1 c2)
        · omega
    · exact absurd a3 (b1 v a1 a2)
  · rcases g with ⟨b1, b2, b3, b4⟩ | ⟨b1, b2⟩
    · exact absurd b3 (a1 u b1 b2)
    · omega
theorem RFD.one9 {σ : MS} {w : Int64} {v u : Int} (h : RFD σ w v) (g : RFD σ w u) : v = u := by
  obtain ⟨a1, a2, a3, a4⟩ := h
  obtain ⟨b1, b2, b3, b4⟩ := g
  by_cases c : v < u
  · exact absurd a3 (b4 v a1 c)
  · by_cases c2 : u < v
    · exact absurd b3 (a4 u b1 c2)
    · omega
theorem RNV.one {σ : MS} {w : Int64} {v u : Int} (h : RNV σ w v) (g : RNV σ w u) : v = u := by
  rcases h with ⟨q, a1, a2⟩ | ⟨a1, a2⟩
  · rcases g with ⟨q2, b1, b2⟩ | ⟨b1, b2⟩
    · rw [a2, b2, a1.one9 b1]
    · exact absurd ⟨q, a1⟩ b1
  · rcases g with ⟨q2, b1, b2⟩ | ⟨b1, b2⟩
    · exact absurd ⟨q2, b1⟩ a1
    · omega
/-- all routines' numbers fit -/
def FITA (nm : Int → Int64 → Int) (rn : Int64 → Int) (tb : Int → Int) (σ : MS) : Prop := ∀ r, 0 ≤ r → r < 6 → FIT nm rn tb (sS 30 r σ)
theorem FITA.fit {nm : Int → Int64 → Int} {rn : Int64 → Int} {tb : Int → Int} {σ τ : MS} (h : FITA nm rn tb σ) (r0 : 0 ≤ τ.1 30) (r6 : τ.1 30 < 6) (e35 : τ.2.1 35 = σ.2.1 35) (e38 : τ.2.2 38 = σ.2.2 38) (e43 : τ.1 43 = σ.1 43) (e44 : τ.2.2 44 = σ.2.2 44) : FIT nm rn tb τ := by
  have f := h (τ.1 30) r0 r6
  unfold FIT NMZ RNV RFD at *
  rw [e35, e38, e43, e44]
  exact f
/-- what the third go makes -/
def GM3 (σ τ : MS) : Prop := ∀ nm rn tb, FITA nm rn tb σ → ∀ m0 : MK, m0.rt = 0 → m0.ln = 0 → m0.2.2.1 = (σ.1 39, σ.1 40) → ∃ t x lg m, RM (sv σ) nm rn tb ([36], advT (sv σ) 0, (0, 0, 0), qq 0, []) m0 ([], t, x, qq 0, lg) m ∧ ∀ r, 0 ≤ r → r < τ.1 30 → m.2.2.2.2.1 r = (τ.2.1 9 r, rV τ r) ∧ m.2.2.2.2.2 r = τ.2.1 37 r
end
section
def WS (K D O : Int → Int) (R a b l0 l1 : Int) : Prop := (l0 ≤ l1 ∧ a ≤ b) ∧
  (∀ k, a ≤ k → k < b → K k ≠ 14 ∧ K k ≠ 15 ∧ ((K k = 8 ∨ K k = 9 ∨ K k = 13) → l0 ≤ D k ∧ D k < l1)) ∧
  (∀ k, a ≤ k → k < b → (K k = 8 ∨ K k = 9) → ∃ j, a ≤ j ∧ j < b ∧ K j = 13 ∧ D j = D k) ∧
  (∀ p j, a ≤ p → p < b → a ≤ j → j < b → (K p = 8 ∨ K p = 9) → K j = 13 → D j = D p → p < j ∨ (K (j + 1) = 11 ∧ j + 1 < b)) ∧
  (∀ k, a ≤ k → k < b → K k = 10 → (0 ≤ O k ∧ O k < R) ∧ ∃ j, a ≤ j ∧ j < k ∧ K j = 11 ∧ O j = 0 ∧ ∀ i, j < i → i < k → 0 ≤ K i ∧ K i ≤ 5)
section WSS
variable {K D O : Int → Int} {R a b c l0 l1 l2 : Int}
theorem WS.nil (h : l0 ≤ l1) : WS K D O R a a l0 l1 := ⟨⟨h, Int.le_refl _⟩, fun k x y => by omega, fun k x y => by omega, fun p j x y => by omega, fun k x y => by omega⟩
/-- items without labels and calls -/
theorem WS.plain (hl : l0 ≤ l1) (hab : a ≤ b) (h : ∀ k, a ≤ k → k < b → K k ≠ 8 ∧ K k ≠ 9 ∧ K k ≠ 10 ∧ K k ≠ 13 ∧ K k ≠ 14 ∧ K k ≠ 15) : WS K D O R a b l0 l1 := by
  refine ⟨⟨hl, hab⟩, fun k x y => ⟨(h k x y).2.2.2.2.1, (h k x y).2.2.2.2.2, fun z => ?_⟩, fun k x y z => ?_, fun p j x y u w e f i => ?_, fun k x y z => absurd z (h k x y).2.2.1⟩
  · have := h k x y; omega
  · have := h k x y; omega
  · have := h p x y; omega
/-- a line, numbers, a call -/
theorem WS.call (hl : l0 ≤ l1) (hab : a + 1 < b) (h1 : K a = 11 ∧ O a = 0) (h2 : ∀ k, a < k → k < b - 1 → 0 ≤ K k ∧ K k ≤ 5) (h3 : K (b - 1) = 10 ∧ 0 ≤ O (b - 1) ∧ O (b - 1) < R) : WS K D O R a b l0 l1 := by
  have key : ∀ k, a ≤ k → k < b → k = a ∨ k = b - 1 ∨ (0 ≤ K k ∧ K k ≤ 5) := fun k x y => by
    by_cases e : k = a
    · exact Or.inl e
    · by_cases e2 : k = b - 1
      · exact Or.inr (Or.inl e2)
      · exact Or.inr (Or.inr (h2 k (by omega) (by omega)))
  have nk : ∀ k, a ≤ k → k < b → K k ≠ 8 ∧ K k ≠ 9 ∧ K k ≠ 13 ∧ K k ≠ 14 ∧ K k ≠ 15 := fun k x y => by
    rcases key k x y with e | e | e
    · rw [e]; omega
    · rw [e]; omega
    · omega
  refine ⟨⟨hl, by omega⟩, fun k x y => ⟨(nk k x y).2.2.2.1, (nk k x y).2.2.2.2, fun z => ?_⟩, fun k x y z => ?_, fun p j x y u w e f i => ?_, fun k x y z => ?_⟩
  · have := nk k x y; omega
  · have := nk k x y; omega
  · have := nk p x y; omega
  · have ek : k = b - 1 := by
      rcases key k x y with e | e | e
      · rw [e] at z; omega
      · exact e
      · omega
    rw [ek]
    exact ⟨h3.2, a, by omega, by omega, h1.1, h1.2, fun i x2 y2 => h2 i x2 y2⟩
theorem WS.ext {K' D' O' : Int → Int} (h : WS K D O R a b l0 l1) (e : ∀ k, a ≤ k → k < b → K' k = K k ∧ D' k = D k ∧ O' k = O k) : WS K' D' O' R a b l0 l1 := by
  obtain ⟨h0, h1, h2, h3, h4⟩ := h
  refine ⟨h0, fun k x y => ?_, fun k x y z => ?_, fun p j x y x2 y2 u f i => ?_, fun k x y z => ?_⟩
  · rw [(e k x y).1, (e k x y).2.1]; exact h1 k x y
  · rw [(e k x y).1] at z
    obtain ⟨j, j1, j2, j3, j4⟩ := h2 k x y z
    exact ⟨j, j1, j2, by rw [(e j j1 j2).1]; exact j3, by rw [(e j j1 j2).2.1, (e k x y).2.1]; exact j4⟩
  · rw [(e p x y).1] at u
    rw [(e j x2 y2).1] at f
    rw [(e j x2 y2).2.1, (e p x y).2.1] at i
    rcases h3 p j x y x2 y2 u f i with r | r
    · exact Or.inl r
    · exact Or.inr ⟨by rw [(e (j + 1) (by omega) r.2).1]; exact r.1, r.2⟩
  · rw [(e k x y).1] at z
    obtain ⟨r, j, j1, j2, j3, j4, j5⟩ := h4 k x y z
    refine ⟨by rw [(e k x y).2.2]; exact r, j, j1, j2, by rw [(e j j1 (by omega)).1]; exact j3, by rw [(e j j1 (by omega)).2.2]; exact j4, fun i x2 y2 => ?_⟩
    rw [(e i (by omega) (by omega)).1]; exact j5 i x2 y2
end WSS
end
section
/-- the first routine told by that name, or none -/
def RBY (σ : MS) (w : Int64) (v : Int) : Prop := (0 ≤ v → σ.2.2 44 v = w ∧ ∀ j, 0 ≤ j → j < v → σ.2.2 44 j ≠ w) ∧ (v = -1 → ∀ j, 0 ≤ j → j < σ.1 43 → σ.2.2 44 j ≠ w)
theorem RBY.one {σ : MS} {w : Int64} {u v : Int} (h : RBY σ w u) (g : RBY σ w v) (hu : 0 ≤ u) (hv : 0 ≤ v) : u = v := by
  by_cases a : u < v
  · exact absurd (h.1 hu).1 ((g.1 hv).2 u hu a)
  · by_cases b : v < u
    · exact absurd (g.1 hv).1 ((h.1 hu).2 v hv b)
    · omega
end
section
theorem RCm.mid {s : Int → Int} {a b c : PCf} (h : RCm s a b) (g : RCm s a c) (hc : stp s c = c) : RCm s b c := by
  obtain ⟨n, hn⟩ := h
  obtain ⟨m, hm⟩ := g
  by_cases z : n ≤ m
  · refine ⟨m - n, ?_⟩
    rw [← hn, ← itr_add, show n + (m - n) = m by omega]
    exact hm
  · refine ⟨0, ?_⟩
    have e : itr s n a = itr s (n - m) c := by rw [← hm, ← itr_add]; congr 1; omega
    rw [itr_fix hc] at e
    exact hn.symm.trans e
theorem stp_log {s : Int → Int} {a : PCf} (h : stp s a ≠ pF) : ∃ l, (stp s a).2.2.2.2 = a.2.2.2.2 ++ l := by
  obtain ⟨K, t, x, q, ρ⟩ := a
  cases K with
  | nil => exact ⟨[], (List.append_nil _).symm⟩
  | cons k K =>
    cases e : stk s k t x q with
    | none =>
      exfalso
      apply h
      show (match stk s k t x q with
        | none => pF
        | some r => (r.1 ++ K, r.2.1, r.2.2.1, r.2.2.2.1, ρ ++ r.2.2.2.2)) = _
      rw [e]
    | some r =>
      refine ⟨r.2.2.2.2, ?_⟩
      show (match stk s k t x q with
        | none => pF
        | some r => (r.1 ++ K, r.2.1, r.2.2.1, r.2.2.2.1, ρ ++ r.2.2.2.2)).2.2.2.2 = _
      rw [e]
theorem itr_pF (s : Int → Int) (n : Nat) : itr s n pF = pF := itr_fix (stp_pF s) n
theorem itr_log {s : Int → Int} (n : Nat) (a : PCf) (h : itr s n a ≠ pF) : ∃ l, (itr s n a).2.2.2.2 = a.2.2.2.2 ++ l := by
  induction n generalizing a with
  | zero => exact ⟨[], (List.append_nil _).symm⟩
  | succ n ih =>
    have h2 : itr s n (stp s a) ≠ pF := h
    obtain ⟨l, hl⟩ := ih (stp s a) h2
    have h3 : stp s a ≠ pF := fun e => h2 (by rw [e]; exact itr_pF s n)
    obtain ⟨m, hm⟩ := stp_log h3
    refine ⟨m ++ l, ?_⟩
    show (itr s n (stp s a)).2.2.2.2 = _
    rw [hl, hm, List.append_assoc]
theorem RCm.log {s : Int → Int} {a b : PCf} (h : RCm s a b) (hb : b ≠ pF) : ∃ l, b.2.2.2.2 = a.2.2.2.2 ++ l := by
  obtain ⟨n, hn⟩ := h
  rw [← hn] at hb ⊢
  exact itr_log n a hb
/-- how many routines have ended -/
def nR : List EV → Int
  | [] => 0
  | e :: l => (if e.1 = 0 then 1 else 0) + nR l
theorem nR_app (a b : List EV) : nR (a ++ b) = nR a + nR b := by
  induction a with
  | nil => simp [nR]
  | cons e l ih => simp only [List.cons_append, nR, ih]; omega
theorem nR_0 (a : List EV) : 0 ≤ nR a := by
  induction a with
  | nil => exact Int.le_refl _
  | cons e l ih => simp only [nR]; split <;> omega
end
section
def E2 (σ : MS) (e : EV) : Prop := (e.1 = 0 → e.2.1 ≤ 120) ∧ (e.1 = 1 → ∃ v, (0 ≤ v ∧ v < σ.1 43) ∧ RBY σ e.2.2 v ∧ σ.2.1 45 v = e.2.1)
def E3 (σ : MS) (e : EV) : Prop := (e.1 = 0 → e.2.1 ≤ 120) ∧ (e.1 = 1 → ∃ v, (0 ≤ v ∧ v < σ.1 43) ∧ v < 6 ∧ RBY σ e.2.2 v ∧ σ.2.1 11 v = e.2.1)
/-- the tables of what was told stay -/
def TBm (σ τ : MS) : Prop := τ.1 43 = σ.1 43 ∧ τ.2.1 11 = σ.2.1 11 ∧ τ.2.1 45 = σ.2.1 45 ∧ τ.2.2 44 = σ.2.2 44
theorem TBm.of {ss ks js : List Nat} {σ τ : MS} (f : Fr ss ks js σ τ) (h1 : 43 ∉ ss) (h2 : 11 ∉ ks) (h3 : 45 ∉ ks) (h4 : 44 ∉ js) : TBm σ τ := ⟨f.1 43 h1, f.2.1 11 h2, f.2.1 45 h3, f.2.2 44 h4⟩
theorem TBm.trans {σ τ υ : MS} (h : TBm σ τ) (g : TBm τ υ) : TBm σ υ := ⟨g.1.trans h.1, g.2.1.trans h.2.1, g.2.2.1.trans h.2.2.1, g.2.2.2.trans h.2.2.2⟩
theorem RBY.tb {σ τ : MS} {w : Int64} {v : Int} (h : RBY σ w v) (t : TBm σ τ) : RBY τ w v := by unfold RBY; rw [t.1, t.2.2.2]; exact h
theorem E3.tb {σ τ : MS} {e : EV} (h : E3 σ e) (t : TBm σ τ) : E3 τ e := ⟨h.1, fun z => by
  obtain ⟨v, a, b, c, d⟩ := h.2 z
  exact ⟨v, by rw [t.1]; exact a, b, c.tb t, by rw [t.2.1]; exact d⟩⟩
def SGF (σ τ : MS) (lg : List EV) : Prop := σ.1 25 = 3 → σ.1 30 < 6 → τ.1 34 ≤ 180 → (∀ e ∈ lg, E3 σ e) →
  (∀ k, σ.1 34 ≤ k → k < τ.1 34 → OKI τ 1 (220 * σ.1 30 + k)) ∧ WS (iK τ (σ.1 30)) (iD τ (σ.1 30)) (iO τ (σ.1 30)) (σ.1 43) (σ.1 34) (τ.1 34) (σ.1 33) (τ.1 33)
theorem SGF.nil {σ τ : MS} {lg : List EV} (h34 : τ.1 34 = σ.1 34) (h33 : σ.1 33 ≤ τ.1 33) : SGF σ τ lg := fun _ _ _ _ => ⟨fun k x y => by omega, by rw [h34]; exact WS.nil h33⟩
end
section
section TSP
variable {k0 k : Nat} {n m : Int} {σ τ υ : MS} {rest : List Nat} {q : Int → QR} {lg : List EV} {X Pb : List ME} {e9 : ME}
theorem CHG.put {ss ks js : List Nat} {c : Int} (f : Fr ss ks js τ υ) (hs : ∀ j ∈ [19, 20, 21, 22, 23, 28, 29, 25, 26, 27, 30, 31, 43], j ∉ ss) (hk : ∀ j ∈ [1, 35, 36, 45], j ∉ ks) (hj : ∀ j ∈ [24, 38, 44], j ∉ js) (e : υ.1 34 = c) : CHG τ υ (τ.1 28, τ.1 29, c) := by
  refine ⟨?_, ?_, sv_fr f (hs 21 (by decide)) (hk 1 (by decide)), srt_fr f (fun j q => hs j (by revert j q; decide)) (fun j q => hk j (by revert j q; decide)) (fun j q => hj j (by revert j q; decide))⟩
  · unfold tks
    rw [f.1 19 (hs 19 (by decide)), f.1 20 (hs 20 (by decide)), f.1 22 (hs 22 (by decide)), f.1 23 (hs 23 (by decide)), f.2.2 24 (hj 24 (by decide))]
  · unfold xs
    rw [f.1 28 (hs 28 (by decide)), f.1 29 (hs 29 (by decide)), e]
end TSP
/-- a single item that is no label, no jump, no call -/
theorem SGF.one {σ τ : MS} {lg : List EV} (h34 : τ.1 34 = σ.1 34 + 1) (h33 : σ.1 33 ≤ τ.1 33) (o : σ.1 25 = 3 → σ.1 30 < 6 → σ.1 34 < 180 → OKI τ 1 (PXx σ)) (k : τ.2.1 3 (PXx σ) ≠ 8 ∧ τ.2.1 3 (PXx σ) ≠ 9 ∧ τ.2.1 3 (PXx σ) ≠ 10 ∧ τ.2.1 3 (PXx σ) ≠ 13 ∧ τ.2.1 3 (PXx σ) ≠ 14 ∧ τ.2.1 3 (PXx σ) ≠ 15) : SGF σ τ lg := fun a b c _ => by
  have e : PXx σ = 220 * σ.1 30 + σ.1 34 := by unfold PXx; rw [if_pos (by omega)]
  have o2 := o a b (by omega)
  rw [e] at k o2
  refine ⟨fun j x y => ?_, WS.plain h33 (by omega) (fun j x y => ?_)⟩
  · rw [show j = σ.1 34 by omega]; exact o2
  · rw [show j = σ.1 34 by omega]; exact k
end
section
def FS (σ τ : MS) : Prop := σ.1 25 = 3 → σ.1 30 < 6 → τ.1 34 ≤ 180 → τ.1 34 = σ.1 34 ∨ (τ.2.1 3 (220 * σ.1 30 + σ.1 34) = 11 ∧ σ.1 34 < τ.1 34) ∨ ((τ.2.1 3 (220 * σ.1 30 + σ.1 34) = 13 ∧ τ.2.1 3 (220 * σ.1 30 + (σ.1 34 + 1)) = 11) ∧ σ.1 34 + 1 < τ.1 34)
theorem FS.nil {σ τ : MS} (h : τ.1 34 = σ.1 34) : FS σ τ := fun _ _ _ => Or.inl h
/-- a LINE was put -/
def LIT (ρ σ : MS) : Prop := (σ.2.1 3 (PXx ρ) = 11 ∧ σ.2.1 5 (PXx ρ) = 0) ∧ OKI σ 1 (PXx ρ)
theorem FS.of {ρ σ ω : MS} (h : LIT ρ σ) (e : σ.1 34 = ρ.1 34 + 1) (p : PBF ρ σ) (q : PBF σ ω) (h0 : 0 ≤ ρ.1 30 ∧ 0 ≤ ρ.1 34) : FS ρ ω := fun a b c => by
  have m2 := q.2.2.2.2.2.1
  have e30 : σ.1 30 = ρ.1 30 := p.2.2.2.2.2.2.2
  have x : PXx ρ = 220 * ρ.1 30 + ρ.1 34 := by unfold PXx; rw [if_pos (by omega)]
  have Z := h.1.1
  rw [x] at Z
  exact Or.inr (Or.inl ⟨(q.1 _ (by omega) (by omega)).1.trans Z, by omega⟩)
section TSX
variable {k0 k : Nat} {n m : Int} {σ τ υ : MS} {rest kk : List Nat} {q : Int → QR} {lg l2 : List EV} {X Pb : List ME}
end TSX
end
section
theorem RNV.no {σ : MS} {w : Int64} {q : Int} (r : RBY σ w q) (h : q = -1) : RNV σ w 0 := Or.inr ⟨fun z => by obtain ⟨j, z⟩ := z; exact r.2 h j z.1 z.2.1 z.2.2.1, rfl⟩
theorem RNV.out {σ : MS} {w : Int64} {q : Int} (r : RBY σ w q) (h : 0 ≤ q) (h1 : q < σ.1 43) (h6 : ¬ q < 6) : RNV σ w 0 := Or.inl ⟨q, ⟨h, h1, r.1 h⟩, (if_neg h6).symm⟩
theorem RNV.fr {ss ks js : List Nat} {σ τ : MS} {w : Int64} {v : Int} (h : RNV τ w v) (f : Fr ss ks js σ τ) (h1 : 43 ∉ ss) (h2 : 44 ∉ js) : RNV σ w v := by
  unfold RNV RFD at *
  rw [f.1 43 h1, f.2.2 44 h2] at h
  exact h
end
section
theorem Fr.set {ss ks js : List Nat} {σ τ : MS} (f : Fr ss ks js σ τ) (k : Nat) (v : Int) : Fr ss ks js (sS k v σ) (sS k v τ) := ⟨fun j hj => by
  show (if j = k then v else τ.1 j) = if j = k then v else σ.1 j
  rw [f.1 j hj], f.2.1, f.2.2⟩
section GX
variable {a rest new kk : List Nat} {k : Nat} {ρ σ τ : MS} {q q1 q2 : QR}
end GX
theorem GOS.and {a b c : List Nat} {σ τ υ : MS} {q q1 q2 : QR} {l1 : List EV} (h : GOS a σ q b τ q1 l1) (g : GOS b τ q1 c υ q2 []) : GOS a σ q c υ q2 l1 := by
  have x := h.trans g
  rw [List.append_nil] at x
  exact x
/-- the head of a routine -/
def HD (ρ σ : MS) : Prop := Fr [19, 20, 22, 23, 26, 27, 43] [35, 36, 45] [24, 38, 44] ρ σ ∧ FLT ρ σ ∧ NN σ ∧ (ρ.1 25 ≠ 1 → σ.2.1 35 = ρ.2.1 35 ∧ σ.2.2 38 = ρ.2.2 38 ∧ σ.2.1 36 = ρ.2.1 36 ∧ TBm ρ σ) ∧ (ρ.1 25 = 1 → σ.1 43 = ρ.1 43 + 1 ∧ (∀ r, r ≠ ρ.1 30 → σ.2.1 35 r = ρ.2.1 35 r ∧ σ.2.1 36 r = ρ.2.1 36 r) ∧ (∀ j, j ≠ ρ.1 43 → σ.2.1 45 j = ρ.2.1 45 j) ∧ (σ.1 26 = 0 → ρ.1 30 ≠ 6)) ∧ (0 ≤ σ.1 43 ∧ σ.1 43 ≤ 260)
theorem HD.pb {ρ σ τ : MS} (h : HD ρ σ) (f : Fr [19, 20, 22, 23, 26, 27] [35] [24, 38] σ τ) (p : PBF σ τ) : HD ρ τ := by
  obtain ⟨h1, h2, h3, h4, h5, h6⟩ := h
  have e25 : σ.1 25 = ρ.1 25 := h1.1 25 (by decide)
  have e30 : σ.1 30 = ρ.1 30 := h1.1 30 (by decide)
  have fl := p.2.2.2.2.1
  refine ⟨h1.trans (Fr.sub f (by decide) (by decide) (by decide)), h2.trans fl, p.2.2.1, fun a => ?_, fun a => ?_, by rw [f.1 43 (by decide)]; exact h6⟩
  · have q := h4 a
    have w := p.2.1 (by omega)
    exact ⟨w.1.trans q.1, w.2.trans q.2.1, (f.2.1 36 (by decide)).trans q.2.2.1, q.2.2.2.trans (TBm.of f (by decide) (by decide) (by decide) (by decide))⟩
  · have q := h5 a
    refine ⟨by rw [f.1 43 (by decide)]; exact q.1, fun r b => ⟨((p.2.2.2.1 r).2 (by omega)).trans (q.2.1 r b).1, by rw [f.2.1 36 (by decide)]; exact (q.2.1 r b).2⟩, fun j b => by rw [f.2.1 45 (by decide)]; exact q.2.2.1 j b, fun b => q.2.2.2 ?_⟩
    by_cases z : σ.1 26 = 0
    · exact z
    · exact absurd b (fl.1 z)
/-- what is kept of a routine's reading, also where it fails -/
def PBO (σ τ : MS) : Prop := (∀ x, x ≠ 2640 → (x < 220 * σ.1 30 ∨ 220 * σ.1 30 + 220 ≤ x ∨ σ.1 25 ≠ 3 ∨ 6 ≤ σ.1 30) → IEQ σ x τ x) ∧ (σ.1 25 ≠ 1 → τ.2.1 35 = σ.2.1 35 ∧ τ.2.2 38 = σ.2.2 38 ∧ τ.2.1 36 = σ.2.1 36 ∧ TBm σ τ) ∧ NN τ ∧ FLT σ τ ∧ τ.1 25 = σ.1 25 ∧ (∀ j, (j ≠ σ.1 30 ∨ σ.1 25 ≠ 3) → τ.2.1 9 j = σ.2.1 9 j) ∧ (0 ≤ τ.1 43 ∧ τ.1 43 ≤ 260)
theorem PBO.fr {ss ks js : List Nat} {ρ σ τ : MS} (h : PBO ρ σ) (f : Fr ss ks js σ τ) (hs : ∀ k ∈ [25, 26, 43], k ∉ ss) (hk : ∀ k ∈ [3, 4, 5, 6, 7, 8, 9, 11, 35, 36, 45], k ∉ ks) (hj : ∀ k ∈ [38, 44], k ∉ js) : PBO ρ τ := by
  obtain ⟨h1, h2, h3, h4, h5, h6, h7⟩ := h
  refine ⟨fun x a b => (h1 x a b).trans (IEQ.of f (fun k q => hk k (by revert k q; decide))), fun a => ?_, h3.fr f (hk 35 (by decide)), h4.trans (FLT.eq (f.1 26 (hs 26 (by decide)))), (f.1 25 (hs 25 (by decide))).trans h5, fun j a => by rw [f.2.1 9 (hk 9 (by decide))]; exact h6 j a, by rw [f.1 43 (hs 43 (by decide))]; exact h7⟩
  have q := h2 a
  exact ⟨(f.2.1 35 (hk 35 (by decide))).trans q.1, (f.2.2 38 (hj 38 (by decide))).trans q.2.1, (f.2.1 36 (hk 36 (by decide))).trans q.2.2.1, q.2.2.2.trans (TBm.of f (hs 43 (by decide)) (hk 11 (by decide)) (hk 45 (by decide)) (hj 44 (by decide)))⟩
theorem PBO.pb {ss ks js : List Nat} {ρ σ τ : MS} (h : PBO ρ σ) (e30 : σ.1 30 = ρ.1 30) (p : PBF σ τ) (h34 : 0 ≤ σ.1 34) (f : Fr ss ks js σ τ) (hs : 43 ∉ ss) (hk : ∀ k ∈ [9, 11, 36, 45], k ∉ ks) (hj : 44 ∉ js) : PBO ρ τ := by
  obtain ⟨h1, h2, h3, h4, h5, h6, h7⟩ := h
  refine ⟨fun x a b => (h1 x a b).trans (p.1 x a (by omega)), fun a => ?_, p.2.2.1, h4.trans p.2.2.2.2.1, p.2.2.2.2.2.2.1.trans h5, fun j a => by rw [f.2.1 9 (hk 9 (by decide))]; exact h6 j a, by rw [f.1 43 hs]; exact h7⟩
  have q := h2 a
  have w := p.2.1 (by omega)
  exact ⟨w.1.trans q.1, w.2.trans q.2.1, (f.2.1 36 (hk 36 (by decide))).trans q.2.2.1, q.2.2.2.trans (TBm.of f hs (hk 11 (by decide)) (hk 45 (by decide)) hj)⟩
theorem PBO.fin {ρ σ τ : MS} (h : PBO ρ σ) (f : Fr [26, 27, 30] [9] [] σ τ) (fl : FLT σ τ) (h9 : ∀ j, (j ≠ ρ.1 30 ∨ ρ.1 25 ≠ 3) → τ.2.1 9 j = σ.2.1 9 j) : PBO ρ τ := by
  obtain ⟨h1, h2, h3, h4, h5, h6, h7⟩ := h
  refine ⟨fun x a b => (h1 x a b).trans (IEQ.of f (by decide)), fun a => ?_, h3.fr f (by decide), h4.trans fl, (f.1 25 (by decide)).trans h5, fun j a => (h9 j a).trans (h6 j a), by rw [f.1 43 (by decide)]; exact h7⟩
  have q := h2 a
  exact ⟨(f.2.1 35 (by decide)).trans q.1, (f.2.2 38 (by decide)).trans q.2.1, (f.2.1 36 (by decide)).trans q.2.2.1, q.2.2.2.trans (TBm.of f (by decide) (by decide) (by decide) (by decide))⟩
/-- phase 1 of a routine -/
def P1O (σ τ : MS) : Prop := τ.1 43 = σ.1 43 + 1 ∧ (∀ r, r ≠ σ.1 30 → τ.2.1 35 r = σ.2.1 35 r ∧ τ.2.1 36 r = σ.2.1 36 r) ∧ (∀ j, j ≠ σ.1 43 → τ.2.1 45 j = σ.2.1 45 j) ∧ (τ.1 26 = 0 → σ.1 30 ≠ 6 ∧ (σ.1 30 < 6 → τ.2.1 45 (σ.1 43) = τ.2.1 36 (σ.1 30) ∧ (0 ≤ τ.2.1 36 (σ.1 30) ∧ τ.2.1 36 (σ.1 30) ≤ 4) ∧ τ.2.1 36 (σ.1 30) ≤ τ.2.1 35 (σ.1 30)))
/-- what phase 1 found out of the routine's parameters -/
def PAM (ρ σ : MS) : Prop := ρ.1 25 = 1 → ρ.1 30 < 6 → σ.1 26 = 0 → σ.2.1 45 (ρ.1 43) = σ.2.1 36 (ρ.1 30) ∧ (0 ≤ σ.2.1 36 (ρ.1 30) ∧ σ.2.1 36 (ρ.1 30) ≤ 4) ∧ σ.2.1 36 (ρ.1 30) ≤ σ.2.1 35 (ρ.1 30)
theorem P1O.mk {ss ks js : List Nat} {ρ σ τ : MS} (h : HD ρ σ) (m : PAM ρ σ) (h1 : ρ.1 25 = 1) (f : Fr ss ks js σ τ) (hs : 43 ∉ ss) (hk : ∀ k ∈ [36, 45], k ∉ ks) (fl : FLT σ τ) (h35 : ∀ r, σ.2.1 35 r ≤ τ.2.1 35 r ∧ (r ≠ ρ.1 30 → τ.2.1 35 r = σ.2.1 35 r)) : P1O ρ τ := by
  obtain ⟨a1, a2, a3, a4, a5, a6⟩ := h
  have q := a5 h1
  unfold P1O
  rw [f.1 43 hs, f.2.1 36 (hk 36 (by decide)), f.2.1 45 (hk 45 (by decide))]
  refine ⟨q.1, fun r b => ⟨((h35 r).2 b).trans (q.2.1 r b).1, (q.2.1 r b).2⟩, q.2.2.1, fun b => ?_⟩
  have z : σ.1 26 = 0 := by
    by_cases z : σ.1 26 = 0
    · exact z
    · exact absurd b (fl.1 z)
  refine ⟨q.2.2.2 z, fun c => ?_⟩
  have w := m h1 c z
  have y := (h35 (ρ.1 30)).1
  exact ⟨w.1, w.2.1, by omega⟩
/-- the plain items of a routine -/
def PLI (σ : MS) (r : Int) : Prop := (1 ≤ σ.2.1 9 r ∧ σ.2.1 9 r ≤ 120) ∧ (∀ k, 0 ≤ k → k < σ.2.1 9 r → OKI σ 1 (220 * r + k)) ∧ (∃ l, l ≤ 119 ∧ WS (iK σ r) (iD σ r) (iO σ r) (σ.1 43) 0 (σ.2.1 9 r - 1) 0 l) ∧ iK σ r (σ.2.1 9 r - 1) = 7 ∧ (iK σ r 0 = 11 ∨ iK σ r 0 = 7 ∨ (iK σ r 0 = 13 ∧ iK σ r 1 = 11))
theorem PLI.mk {n : Int} {α β γ ω : MS} {lg : List EV} (s : SGF α β lg) (fs : FS α β) (h3 : α.1 25 = 3) (h6 : 0 ≤ α.1 30 ∧ α.1 30 < 6) (a34 : α.1 34 = 0) (a33 : α.1 33 = 0) (pb : PBF α β) (pc : PBC n α β) (he : ∀ e ∈ lg, E3 α e) (h120 : β.1 34 + 1 ≤ 120) (p2 : PBF β γ) (e34 : γ.1 34 = β.1 34 + 1) (ok : OKI γ 1 (PXx β)) (k7 : γ.2.1 3 (PXx β) = 7) (tb1 : TBm α β) (tb2 : TBm β γ) (f : Fr [30] [9] [] γ ω) (e9 : ω.2.1 9 (α.1 30) = γ.1 34) : PLI ω (α.1 30) := by
  have b6 := pb.2.2.2.2.2.1
  have b25 : β.1 25 = α.1 25 := pb.2.2.2.2.2.2.1
  have b30 : β.1 30 = α.1 30 := pb.2.2.2.2.2.2.2
  have x : PXx β = 220 * α.1 30 + β.1 34 := by unfold PXx; rw [if_pos (by omega), b30]
  rw [x] at ok k7
  obtain ⟨S1, S2⟩ := s h3 h6.2 (by omega) he
  rw [a34, a33] at S2
  have F := fs h3 h6.2 (by omega)
  rw [a34] at F
  have ig : ∀ z, IEQ γ z ω z := fun z => IEQ.of f (by decide)
  have ib : ∀ k, 0 ≤ k → k < β.1 34 → IEQ β (220 * α.1 30 + k) ω (220 * α.1 30 + k) := fun k a b => (p2.1 _ (by omega) (by omega)).trans (ig _)
  have t11 : ω.2.1 11 = γ.2.1 11 := f.2.1 11 (by decide)
  have e43 : ω.1 43 = α.1 43 := (f.1 43 (by decide)).trans (tb2.1.trans tb1.1)
  have pc7 : β.1 33 - α.1 33 ≤ β.1 34 - α.1 34 := pc.2.2.2.2.2.2.2
  unfold PLI
  rw [e9, e34]
  refine ⟨by omega, fun k a b => ?_, ⟨β.1 33, by omega, ?_⟩, ?_, ?_⟩
  · by_cases z : k = β.1 34
    · rw [z]; exact (ig _).oki t11 ok
    · exact (ib k a (by omega)).oki (t11.trans tb2.2.1) (S1 k (by omega) (by omega))
  · rw [e43, show β.1 34 + 1 - 1 = β.1 34 by omega]
    exact S2.ext (fun k a b => ⟨(ib k a b).1, (ib k a b).2.1, (ib k a b).2.2.1⟩)
  · rw [show β.1 34 + 1 - 1 = β.1 34 by omega]
    exact (ig _).1.trans k7
  · rcases F with e | e | e
    · have e0 : β.1 34 = 0 := by omega
      rw [e0] at k7
      exact Or.inr (Or.inl ((ig _).1.trans k7))
    · exact Or.inl ((ib 0 (by omega) (by omega)).1.trans e.1)
    · exact Or.inr (Or.inr ⟨(ib 0 (by omega) (by omega)).1.trans e.1.1, (ib 1 (by omega) (by omega)).1.trans e.1.2⟩)
/-- what the routine's reading may take as given -/
def HQR (σ : MS) : Prop := σ.1 25 = 3 → ∀ (τ : MS) (lg : List EV), (∀ x, GOS [30] (sS 34 x σ) (qq 0) [] τ (qq 0) lg) → (0 < nR lg → σ.1 30 < 6) ∧ ∀ e ∈ lg, E3 σ e
def ORH (σ : MS) : Prop := TOK σ ∧ (0 ≤ σ.1 25 ∧ σ.1 25 ≤ 3) ∧ (0 ≤ σ.1 30 ∧ 5 * σ.1 30 ≤ σ.1 19) ∧ (0 ≤ σ.1 31 ∧ σ.1 31 ≤ σ.1 19) ∧ (σ.1 28 = 0 ∧ σ.1 29 = 0) ∧ NN σ ∧ ((0 ≤ σ.1 43 ∧ σ.1 43 ≤ 260) ∧ (σ.1 25 = 1 → σ.1 43 = σ.1 30)) ∧ HQR σ
end
section
theorem PBO.rfl {σ : MS} (h : ORH σ) : PBO σ σ := ⟨fun x _ _ => ⟨_root_.rfl, _root_.rfl, _root_.rfl, _root_.rfl, fun _ _ _ => ⟨_root_.rfl, _root_.rfl⟩⟩, fun _ => ⟨_root_.rfl, _root_.rfl, _root_.rfl, _root_.rfl, _root_.rfl, _root_.rfl, _root_.rfl⟩, h.2.2.2.2.2.1, FLT.eq _root_.rfl, _root_.rfl, fun _ _ => _root_.rfl, h.2.2.2.2.2.2.1.1⟩
end
section
def GST (s : Int → Int) : PCf := ([36], advT s 0, (0, 0, 0), qq 0, [])
/-- phase 1 so far -/
def IV1 (σ : MS) : Prop := σ.1 26 = 0 → σ.1 30 ≤ 6 ∧ ∀ v, 0 ≤ v → v < σ.1 30 → σ.2.1 45 v = σ.2.1 36 v ∧ (0 ≤ σ.2.1 36 v ∧ σ.2.1 36 v ≤ 4) ∧ σ.2.1 36 v ≤ σ.2.1 35 v
theorem IV1.step {σ τ : MS} (h : IV1 σ) (p : P1O σ τ) (fl : FLT σ τ) (e : τ.1 30 = σ.1 30 + 1) (e43 : σ.1 43 = σ.1 30) (h0 : 0 ≤ σ.1 30) : IV1 τ := fun a => by
  obtain ⟨p1, p2, p3, p4⟩ := p
  have z : σ.1 26 = 0 := Classical.byContradiction (fun y => fl.1 y a)
  have H := h z
  have q := p4 a
  refine ⟨by omega, fun v b c => ?_⟩
  by_cases y : v = σ.1 30
  · have w := q.2 (by omega)
    rw [e43] at w
    rw [y]; exact w
  · rw [p3 v (by omega), (p2 v y).1, (p2 v y).2]
    exact H.2 v b (by omega)
theorem PLI.oth {σ τ : MS} {r : Int} (h : PLI σ r) (hr : 0 ≤ r ∧ r < 6) (p : PBO σ τ) (ne : r < σ.1 30) (h3 : σ.1 25 = 3) : PLI τ r := by
  obtain ⟨p1, p2, p3, p4, p5, p6, p7⟩ := p
  obtain ⟨h1, h2, ⟨l, h4, h5⟩, h6, h7⟩ := h
  have tb := (p2 (by omega)).2.2.2
  have e9 : τ.2.1 9 r = σ.2.1 9 r := p6 r (Or.inl (by omega))
  have ie : ∀ k, 0 ≤ k → k < 220 → IEQ σ (220 * r + k) τ (220 * r + k) := fun k a b => p1 _ (by omega) (by omega)
  unfold PLI
  rw [e9]
  refine ⟨h1, fun k a b => (ie k a (by omega)).oki tb.2.1 (h2 k a b), ⟨l, h4, ?_⟩, (ie _ (by omega) (by omega)).1.trans h6, ?_⟩
  · rw [tb.1]
    exact h5.ext (fun k a b => ⟨(ie k a (by omega)).1, (ie k a (by omega)).2.1, (ie k a (by omega)).2.2.1⟩)
  · have a0 : iK τ r 0 = iK σ r 0 := (ie 0 (by omega) (by omega)).1
    have a1 : iK τ r 1 = iK σ r 1 := (ie 1 (by omega) (by omega)).1
    rw [a0, a1]; exact h7
/-- the end of a go that is known -/
def GEN (s : Int → Int) (σ : MS) : Prop := ∃ t x lg, RCm s (GST s) ([], t, x, qq 0, lg) ∧ nR lg ≤ 6 ∧ ∀ e ∈ lg, E3 σ e
/-- the road so far -/
def GRD (σ0 σ : MS) (lg : List EV) : Prop := ∃ x, GOS [36] (sS 34 0 σ0) (qq 0) [36] (sS 34 x σ) (qq 0) lg
theorem GRD.rc {σ0 σ : MS} {lg : List EV} (g : ∃ x, GOS [36] (sS 34 0 σ0) (qq 0) [36] (sS 34 x σ) (qq 0) lg) (e1 : tks σ0 = advT (sv σ0) 0) (e2 : σ0.1 28 = 0 ∧ σ0.1 29 = 0) : ∃ x, RCm (sv σ0) (GST (sv σ0)) (cfg [36] (sS 34 x σ) (qq 0) lg) := by
  obtain ⟨x, g⟩ := g
  refine ⟨x, ?_⟩
  have h := g.rc [] []
  have e : cfg ([36] ++ []) (sS 34 0 σ0) (qq 0) [] = GST (sv σ0) := by
    show ([36], tks σ0, (σ0.1 28, σ0.1 29, (0 : Int)), qq 0, ([] : List EV)) = _
    rw [e1, e2.1, e2.2]; rfl
  rw [e] at h
  exact h
theorem HQR.mk {σ0 σ : MS} {lg : List EV} (g : GRD σ0 σ lg) (e1 : tks σ0 = advT (sv σ0) 0) (e2 : σ0.1 28 = 0 ∧ σ0.1 29 = 0) (hn : nR lg = σ.1 30) (he : σ.1 25 = 3 → GEN (sv σ0) σ0) (tb : σ.1 25 = 3 → TBm σ0 σ) (h22 : σ.1 22 ≠ 0) : HQR σ := fun a τ l2 h => by
  obtain ⟨t, xx, lF, rF, nF, eF⟩ := he a
  obtain ⟨x, g⟩ := g
  have g2 : GOS [36] (sS 34 0 σ0) (qq 0) [36] τ (qq 0) (lg ++ l2) := g.trans ((g36n (σ := sS 34 x σ) h22).then ((h x).more [36]))
  have r2 := g2.rc [] []
  have e : cfg ([36] ++ []) (sS 34 0 σ0) (qq 0) [] = GST (sv σ0) := by
    show ([36], tks σ0, (σ0.1 28, σ0.1 29, (0 : Int)), qq 0, ([] : List EV)) = _
    rw [e1, e2.1, e2.2]; rfl
  rw [e] at r2
  have r3 := RCm.mid r2 rF rfl
  obtain ⟨l3, h3⟩ := RCm.log r3 (fun z => absurd (show ([] : List Nat) = [999] from congrArg Prod.fst z) (by decide))
  have e3 : lF = (lg ++ l2) ++ l3 := h3
  rw [e3, nR_app, nR_app, hn] at nF
  refine ⟨fun z => ?_, fun e w => (eF e ?_).tb (tb a)⟩
  · have := nR_0 l3
    omega
  · rw [e3]; exact List.mem_append_left _ (List.mem_append_right _ w)
theorem GRD.step {σ0 σ τ : MS} {lg l2 : List EV} (g : GRD σ0 σ lg) (h22 : σ.1 22 ≠ 0) (h : ∀ x, GOS [30] (sS 34 x σ) (qq 0) [] τ (qq 0) l2) : GRD σ0 τ (lg ++ l2) := by
  obtain ⟨x, g⟩ := g
  exact ⟨τ.1 34, (g.trans ((g36n (σ := sS 34 x σ) h22).then ((h x).more [36]))).last rfl rfl⟩
theorem GRD.fin {σ0 σ : MS} {lg : List EV} (g : GRD σ0 σ lg) (e1 : tks σ0 = advT (sv σ0) 0) (e2 : σ0.1 28 = 0 ∧ σ0.1 29 = 0) (h22 : σ.1 22 = 0) : ∃ t x es, RE (sv σ0) (GST (sv σ0)) es ([], t, x, qq 0, lg) ∧ EFF es σ0 σ := by
  obtain ⟨x, g⟩ := g
  obtain ⟨-, es, f, w⟩ : GOS [36] (sS 34 0 σ0) (qq 0) [] (sS 34 x σ) (qq 0) lg := g.and (g36y (σ := sS 34 x σ) h22)
  have r2 := f [] []
  have e : cfg ([36] ++ []) (sS 34 0 σ0) (qq 0) [] = GST (sv σ0) := by
    show ([36], tks σ0, (σ0.1 28, σ0.1 29, (0 : Int)), qq 0, ([] : List EV)) = _
    rw [e1, e2.1, e2.2]; rfl
  rw [e] at r2
  exact ⟨_, _, es, r2, w⟩
/-- how a go begins -/
def IGO (w : Int) (ρ A : MS) : Prop := (A.1 25 = w ∧ A.1 26 = ρ.1 26 ∧ A.1 27 = ρ.1 27 ∧ A.1 30 = 0 ∧ A.1 31 = 0) ∧ (w = 1 → A.1 43 = 0 ∧ ∀ r, 0 ≤ r → r < 6 → A.2.1 35 r = 0) ∧ (w ≠ 1 → A.1 43 = ρ.1 43 ∧ A.2.1 35 = ρ.2.1 35) ∧ A.2.1 45 = ρ.2.1 45 ∧ A.2.2 38 = ρ.2.2 38 ∧ A.2.2 44 = ρ.2.2 44
/-- how a go ends -/
def GQ1 (w : Int) (σ τ : MS) : Prop := ∃ t x lg es, (RE (sv σ) (GST (sv σ)) es ([], t, x, qq 0, lg) ∧ ∃ A, IGO w σ A ∧ EFF es A τ) ∧ nR lg = τ.1 30 ∧ (w = 2 → τ.1 26 = 0 → ∀ e ∈ lg, E2 σ e) ∧ (w = 1 → τ.1 43 = τ.1 30 ∧ IV1 τ) ∧ (w = 3 → (∀ r, 0 ≤ r → r < τ.1 30 → PLI τ r) ∧ ∀ j, τ.1 30 ≤ j → τ.2.1 9 j = σ.2.1 9 j) ∧ (w = 3 → GM3 σ τ)
end
section
theorem CW.ext {n F R : Int} {K D O K' D' O' FI fr lf : Int → Int} (h : CW n F R K D O FI fr lf) (e : ∀ k, 0 ≤ k → k < n → K' k = K k ∧ D' k = D k ∧ O' k = O k) : CW n F R K' D' O' FI fr lf := by
  obtain ⟨c1, c2, c3, c4, c5⟩ := h
  refine ⟨c1, c2, fun k a b x7 x8 => ?_, fun k a b => ?_, fun k a b z => ?_⟩
  · rw [(e k a b).1] at x7 x8 ⊢
    rw [(e k a b).2.1]
    exact c3 k a b x7 x8
  · rw [(e k a b).1, (e k a b).2.1]; exact c4 k a b
  · rw [(e k a b).1] at z
    obtain ⟨d0, j, d1, d2, d3, d4, d5⟩ := c5 k a b z
    exact ⟨by rw [(e k a b).2.2]; exact d0, j, d1, d2, by rw [(e j d1 (by omega)).1]; exact d3, by rw [(e j d1 (by omega)).2.2]; exact d4, fun i x y => by rw [(e i (by omega) (by omega)).1]; exact d5 i x y⟩
section KP
variable {ss ks js : List Nat} {σ τ : MS}
end KP
/-- tables of routine r as the reader lays them -/
def DNR (σ : MS) (r : Int) : Prop := σ.2.1 14 r = 1 ∧ σ.2.1 15 (12 * r) = r ∧ σ.2.1 16 (12 * r) = -1 ∧ (∀ n, 0 ≤ n → n < 12 → σ.2.1 18 (144 * r + n) = n) ∧ σ.2.1 9 (6 + r) = σ.2.1 9 r ∧ ∀ k, 0 ≤ k → k < σ.2.1 9 r → IEQ σ (220 * r + k) σ (220 * (6 + r) + k)
theorem PLI.cw {σ : MS} {r F R : Int} {FI : Int → Int} (h : PLI σ r) (hF : 1 ≤ F) (hR : σ.1 43 ≤ R) : CW (σ.2.1 9 r) F R (iK σ r) (iD σ r) (iO σ r) FI (fun _ => 0) (fun _ => 0) := by
  obtain ⟨h1, h2, ⟨l, h3, w0, w1, w2, w3, w4⟩, h5, h6⟩ := h
  have lt : ∀ k, 0 ≤ k → k < σ.2.1 9 r → iK σ r k ≠ 7 → k < σ.2.1 9 r - 1 := fun k a b c => by
    by_cases z : k = σ.2.1 9 r - 1
    · rw [z] at c; exact absurd h5 c
    · omega
  refine ⟨rfl, fun _ _ _ => ⟨Int.le_refl _, show (0 : Int) < F by omega⟩, fun k a b x7 x8 => ?_, fun k _ _ => ⟨fun _ => rfl, fun _ => rfl⟩, fun k a b e => ?_⟩
  · have y := lt k a b x7
    have q := w1 k a y
    exact ⟨by omega, fun z => absurd z q.1, fun z => absurd z q.2.1, fun _ _ => rfl⟩
  · have y := lt k a b (by omega)
    obtain ⟨q, j, j0, j1, j2, j3, j4⟩ := w4 k a y e
    exact ⟨by omega, j, j0, j1, j2, j3, fun i x z => (j4 i x z).2⟩
theorem PLI.lex {σ : MS} {r : Int} (h : PLI σ r) : LEX σ r := fun k a b e => by
  obtain ⟨h1, h2, ⟨l, h3, w0, w1, w2, w3, w4⟩, h5, h6⟩ := h
  have y : k < σ.2.1 9 r - 1 := by
    by_cases z : k = σ.2.1 9 r - 1
    · rw [z] at e
      simp only [iK] at h5
      omega
    · omega
  obtain ⟨j, j0, j1, j2, j3⟩ := w2 k a y e
  exact ⟨j, j0, by omega, j2, j3⟩
theorem GDR.plain {σ : MS} {r : Int} (h : PLI σ r) (d : DNR σ r) (hr : 0 ≤ r ∧ r < 6) (e43 : σ.1 43 = σ.1 10) (hn : 0 ≤ σ.2.1 12 r ∧ σ.2.1 12 r ≤ 12) (hp : σ.2.1 11 r ≤ σ.2.1 12 r) : GDR σ r := by
  have lx := h.lex
  have cw := h.cw (F := σ.2.1 14 r) (R := σ.1 10) (FI := iF σ r) (by rw [d.1]; decide) (by omega)
  obtain ⟨d1, d2, d3, d4, d5, d6⟩ := d
  obtain ⟨h1, h2, ⟨l, h3, w0, w1, w2, w3, w4⟩, h5, h6⟩ := h
  have z0 : (12 : Int) * r + 0 = 12 * r := by omega
  refine ⟨by omega, ⟨by rw [d1]; decide, fun f a b => ?_⟩, fun k a b => by rw [d1]; exact h2 k a b, by unfold FR0; rw [z0]; exact d2, lx, ⟨_, _, cw⟩, ⟨by rw [z0]; exact d3, fun f a b => by rw [d1] at b; omega⟩, fun k a b e => ?_, hp⟩
  · have f0 : f = 0 := by rw [d1] at b; omega
    rw [f0, z0, d2]
    refine ⟨hr, fun n x y => ?_⟩
    rw [show 144 * r + 12 * 0 + n = 144 * r + n by omega, d4 n x (by omega)]
    omega
  · rw [d1]
    have y : k < σ.2.1 9 r - 1 := by
      by_cases z : k = σ.2.1 9 r - 1
      · rw [z] at e
        simp only [iK] at h5
        omega
      · omega
    have q := (w1 k a y).2.2 e
    simp only [iD] at q
    omega
theorem IEQ.symm {σ τ : MS} {x y : Int} (h : IEQ σ x τ y) : IEQ τ y σ x := ⟨h.1.symm, h.2.1.symm, h.2.2.1.symm, h.2.2.2.1.symm, fun i a b => ⟨(h.2.2.2.2 i a b).1.symm, (h.2.2.2.2 i a b).2.symm⟩⟩
theorem DNR.oth {σ τ : MS} {j : Int} (h : DNR σ j) (e14 : τ.2.1 14 j = σ.2.1 14 j) (e15 : τ.2.1 15 (12 * j) = σ.2.1 15 (12 * j)) (e16 : τ.2.1 16 (12 * j) = σ.2.1 16 (12 * j)) (e18 : ∀ n, 0 ≤ n → n < 12 → τ.2.1 18 (144 * j + n) = σ.2.1 18 (144 * j + n)) (e9 : τ.2.1 9 j = σ.2.1 9 j) (e96 : τ.2.1 9 (6 + j) = σ.2.1 9 (6 + j)) (h220 : σ.2.1 9 j ≤ 220) (ia : ∀ k, 0 ≤ k → k < 220 → IEQ σ (220 * j + k) τ (220 * j + k)) (ib : ∀ k, 0 ≤ k → k < 220 → IEQ σ (220 * (6 + j) + k) τ (220 * (6 + j) + k)) : DNR τ j := by
  obtain ⟨d1, d2, d3, d4, d5, d6⟩ := h
  refine ⟨e14.trans d1, e15.trans d2, e16.trans d3, fun n a b => (e18 n a b).trans (d4 n a b), by rw [e9, e96]; exact d5, fun k a b => ?_⟩
  rw [e9] at b
  exact (ia k a (by omega)).symm.trans ((d6 k a b).trans (ib k a (by omega)))
theorem GQ1.det {w u : Int} {α β γ δ : MS} (h : GQ1 w α β) (g : GQ1 u γ δ) (e : sv γ = sv α) : δ.1 30 = β.1 30 := by
  obtain ⟨t1, x1, l1, e1, ⟨r1, -⟩, n1, -⟩ := h
  obtain ⟨t2, x2, l2, e2, ⟨r2, -⟩, n2, -⟩ := g
  rw [e] at r2
  have z := RCm.det r1.rc r2.rc rfl rfl
  have y : l1 = l2 := congrArg (fun q => q.2.2.2.2) z
  rw [← n1, ← n2, y]
end
section
def DN2 (σ τ : MS) (r : Int) : Prop := τ.2.1 13 r = σ.2.1 37 r ∧ τ.2.1 17 (12 * r) = 0
/-- the tables of names and routines, as the first go told them -/
def TBQ (S : Int → Int) (τ : MS) : Prop := ∃ es t x q ρ A, RE S ([36], advT S 0, (0, 0, 0), qq 0, []) es ([], t, x, q, ρ) ∧ ((absR A).ph = 1 ∧ (absR A).rt = 0 ∧ (absR A).ln = 0 ∧ (absR A).tn = 0 ∧ ∀ r, 0 ≤ r → r < 6 → (absR A).nn r = 0) ∧ (es.foldl uR (absR A)).nn = τ.2.1 35 ∧ (es.foldl uR (absR A)).nw = τ.2.2 38 ∧ (es.foldl uR (absR A)).tn = τ.1 43 ∧ (es.foldl uR (absR A)).tw = τ.2.2 44 ∧ ∀ r, 0 ≤ r → r < τ.1 10 → (es.foldl uR (absR A)).tm r = τ.2.1 11 r
theorem absR_srt6 {A B : MS} (h : srt A = srt B) : absR A = absR B := by
  unfold absR
  rw [srt_25 h, srt_26 h, srt_27 h, srt_30 h, srt_31 h, srt_43 h, srt_44 h, srt_45 h, srt_35 h, srt_38 h]
theorem EFF.ab6 {es : List EW} {A τ : MS} (h : EFF es A τ) (h0 : 0 < A.1 25) : absR τ = es.foldl uR (absR A) := by
  rw [← abs_fold es h0]
  exact (absR_srt6 (h A rfl)).symm
theorem TBQ.mk {S : Int → Int} {σa σb τ : MS} (g : GQ1 1 σa σb) (hS : sv σa = S) (e35 : τ.2.1 35 = σb.2.1 35) (e38 : τ.2.2 38 = σb.2.2 38) (e43 : τ.1 43 = σb.1 43) (e44 : τ.2.2 44 = σb.2.2 44) (ht : ∀ r, 0 ≤ r → r < τ.1 10 → τ.2.1 11 r = σb.2.1 45 r) : TBQ S τ := by
  obtain ⟨t, x, lg, es, ⟨re, A, ia, ef⟩, -⟩ := g
  rw [hS] at re
  have ab := ef.ab6 (by rw [ia.1.1]; decide)
  refine ⟨es, t, x, qq 0, lg, A, re, ⟨ia.1.1, ia.1.2.2.2.1, ia.1.2.2.2.2, (ia.2.1 rfl).1, (ia.2.1 rfl).2⟩, ?_, ?_, ?_, ?_, fun r a b => ?_⟩
  · rw [← ab, e35]; rfl
  · rw [← ab, e38]; rfl
  · rw [← ab, e43]; rfl
  · rw [← ab, e44]; rfl
  · rw [← ab, ht r a b]; rfl
def MDE (S : Int → Int) (τ : MS) : Prop := (∃ pk pv, ∀ nm rn tb, FITA nm rn tb τ → ∀ m0 : MK, m0.rt = 0 → m0.ln = 0 → m0.2.2.1 = (pk, pv) → ∃ t x lg m, RM S nm rn tb ([36], advT S 0, (0, 0, 0), qq 0, []) m0 ([], t, x, qq 0, lg) m ∧ ∀ r, 0 ≤ r → r < τ.1 10 → m.2.2.2.2.1 r = (τ.2.1 9 r, rV τ r) ∧ m.2.2.2.2.2 r = τ.2.1 13 r) ∧ (∀ r, 0 ≤ r → r < τ.1 10 → DNR τ r ∧ τ.2.1 17 (12 * r) = 0 ∧ τ.2.1 12 r = τ.2.1 35 r ∧ τ.2.1 11 r = τ.2.1 36 r) ∧ TBQ S τ
theorem MDE.mk {S : Int → Int} {d e τ : MS} (g : GM3 d e) (hS : sv d = S) (e10 : τ.1 10 = e.1 30) (h6 : e.1 30 ≤ 6) (h9 : ∀ j, j < 6 → τ.2.1 9 j = e.2.1 9 j) (hb : ∀ r, 0 ≤ r → r < e.1 30 → e.2.1 9 r ≤ 220) (hi : ∀ x, x < 1320 → IEQ e x τ x) (e35 : τ.2.1 35 = d.2.1 35) (e38 : τ.2.2 38 = d.2.2 38) (e43 : τ.1 43 = d.1 43) (e44 : τ.2.2 44 = d.2.2 44) (h13 : ∀ r, 0 ≤ r → r < τ.1 10 → DN2 e τ r) (dn : ∀ r, 0 ≤ r → r < τ.1 10 → DNR τ r) (tab : ∀ r, 0 ≤ r → r < τ.1 10 → τ.2.1 12 r = τ.2.1 35 r ∧ τ.2.1 11 r = τ.2.1 36 r) (tb9 : TBQ S τ) : MDE S τ := by
  refine ⟨⟨d.1 39, d.1 40, fun nm rn tb f m0 b1 b2 b3 => ?_⟩, fun r a b => ⟨dn r a b, (h13 r a b).2, tab r a b⟩, tb9⟩
  obtain ⟨t, x, lg, m, r1, d1⟩ := g nm rn tb (fun r r0 r6 => f.fit (τ := sS 30 r d) r0 r6 e35.symm e38.symm e43.symm e44.symm) m0 b1 b2 b3
  rw [hS] at r1
  refine ⟨t, x, lg, m, r1, fun r a b => ?_⟩
  have q := d1 r a (by omega)
  have b9 := hb r a (by omega)
  have ev : rV τ r = rV e r := by
    unfold rV
    rw [h9 r (by omega)]
    funext k
    by_cases z : 0 ≤ k ∧ k < e.2.1 9 r
    · rw [if_pos z, if_pos z]
      exact (hi (220 * r + k) (by omega)).ri
    · rw [if_neg z, if_neg z]
  rw [h9 r (by omega), ev, (h13 r a b).1]
  exact q
end
section
/-- what read answers -/
noncomputable def RA9 (c : CS) : FP := cnts (cSs c c.cn.toNat) c.fp
theorem cntN_z {f p : Int} {a : FP} (hf : f ≠ 0) (h : (cntN f p a).1 = 0) : False := by
  unfold cntN at h
  by_cases c : a.1 = 0 ∨ p < a.2 ∨ (p = a.2 ∧ f < a.1)
  · rw [if_pos c] at h; exact hf h
  · rw [if_neg c] at h; exact c (Or.inl h)
end
section
def lrnF (i : It) (K : KN) : KN := fun g => if g = i 1 then (if i 0 = 0 ∧ ¬ (i 3 = 2 ∧ i 4 = i 1) ∧ i 3 ≠ 0 then (i 3, i 4) else (0, 0)) else if K g = (2, i 1) then (0, 0) else K g
noncomputable def lrn (i : It) (K : KN) : KN := dI (i 0 ≤ 5 ∨ i 0 = 10) (lrnF i K) K
/-- the first m operands, as they are known -/
def foO (K : KN) (i : It) (m : Int) : It := fun c => if 3 ≤ c ∧ c < 3 + 2 * m ∧ i (3 + 2 * ((c - 3) / 2)) = 2 ∧ (K (i (4 + 2 * ((c - 3) / 2)))).1 ≠ 0 then (if (c - 3) % 2 = 0 then (K (i (4 + 2 * ((c - 3) / 2)))).1 else (K (i (4 + 2 * ((c - 3) / 2)))).2) else i c
def foC (K : KN) (i : It) (m : Int) : Prop := ∃ j, 0 ≤ j ∧ j < m ∧ i (3 + 2 * j) = 2 ∧ (K (i (4 + 2 * j))).1 ≠ 0
/-- becomes COPY of one operand -/
def cpyI (i : It) (k v : Int) : It := uZ (uZ (uZ (uZ (uZ i 0 0) 3 k) 4 v) 5 0) 6 0
/-- 32 bits -/
def w32 (z : Int) : Int := (iI z).toInt
def wkd (k a b : Int) : Int := if k = 1 then w32 (a + b) else if k = 2 then w32 (a - b) else if k = 3 then w32 (a * b) else if k = 4 then (if a = b then 1 else 0) else (if a < b then 1 else 0)
def five2 (i : It) : Prop := 1 ≤ i 0 ∧ i 0 ≤ 5 ∧ i 3 = 1 ∧ i 5 = 1
noncomputable def foA (i : It) : It := dI (five2 i) (cpyI i 1 (wkd (i 0) (i 4) (i 6))) i
def zer1 (i : It) : Prop := i 0 = 9 ∧ i 3 = 1
noncomputable def foZ (i : It) : It := dI (zer1 i) (uZ (uZ (uZ i 0 8) 3 0) 4 0) i
noncomputable def foB (K : KN) (i : It) : It := dI (i 11 = 2 ∧ (K (i 4)).1 = 1) (uZ (uZ (uZ i 11 1) 3 1) 4 (K (i 4)).2) i
abbrev FOT : Type := KN × Int × Int × (Int → It)
noncomputable def foX (s : FOT) (i : It) : FOT :=
  (lrn (foZ (foA (foO s.1 i 4))) s.1,
   dI (zer1 (foA (foO s.1 i 4)) ∧ foA (foO s.1 i 4) 4 ≠ 0) s.2.1 (s.2.1 + 1),
   dI (foC s.1 i 4 ∨ five2 (foO s.1 i 4) ∨ zer1 (foA (foO s.1 i 4))) (s.2.2.1 + 1) s.2.2.1,
   dI (zer1 (foA (foO s.1 i 4)) ∧ foA (foO s.1 i 4) 4 ≠ 0) s.2.2.2 (uZ s.2.2.2 s.2.1 (foZ (foA (foO s.1 i 4)))))
noncomputable def foT (s : FOT) (i : It) : FOT :=
  if i 0 = 13 then (fun _ => (0, 0), s.2.1 + 1, s.2.2.1, uZ s.2.2.2 s.2.1 i)
  else if i 0 = 12 then (s.1, s.2.1 + 1, s.2.2.1, uZ s.2.2.2 s.2.1 (foB s.1 i))
  else if i 0 ≤ 10 then foX s i
  else (s.1, s.2.1 + 1, s.2.2.1, uZ s.2.2.2 s.2.1 i)
noncomputable def foS (V : Int → It) : Nat → FOT
  | 0 => (fun _ => (0, 0), 0, 0, fun _ => zI)
  | n + 1 => foT (foS V n) (V n)
theorem foS_s {V : Int → It} {k : Int} (h : 0 ≤ k) : foS V (k + 1).toNat = foT (foS V k.toNat) (V k) := by
  rw [show (k + 1).toNat = k.toNat + 1 by omega]
  show foT (foS V k.toNat) (V ((k.toNat : Nat) : Int)) = _
  rw [show ((k.toNat : Nat) : Int) = k by omega]
section FOO
variable {K : KN} {i : It} {m : Int}
end FOO
section KNA
variable {σ τ : MS} {g : Int}
end KNA
end
section
section PI
variable {σ0 σ : MS} {K : KN} {x i w : Int}
end PI
section FOYS
variable {ρ σ τ : MS} {r k t w gs ce : Int}
theorem ov_fr {ss ks js : List Nat} (f : Fr ss ks js σ τ) (h : ∀ k ∈ [3, 4, 5, 6, 7, 8], k ∉ ks) : oV τ r t = oV σ r t := ov_ext (fun j a b => by rw [f.ri h])
theorem rv_fr {ss ks js : List Nat} (f : Fr ss ks js σ τ) (h : ∀ k ∈ [3, 4, 5, 6, 7, 8, 9], k ∉ ks) : rV τ r = rV σ r := by
  rw [rv_ov, rv_ov, f.q h (k := 9) (by decide)]
  exact ov_fr f (fun k q => h k (by simp at q ⊢; omega))
end FOYS
end
section
def wrT (i : It) (g : Int) : Prop := (i 0 ≤ 5 ∨ i 0 = 10) ∧ i 1 = g
def rdI (i : It) (g : Int) : Prop := ∃ j, 0 ≤ j ∧ j < 4 ∧ i (3 + 2 * j) = 2 ∧ i (4 + 2 * j) = g
/-- none of the items a .. b writes g -/
def nwB (V : Int → It) (a b g : Int) : Prop := ∀ i, a ≤ i → i ≤ b → ¬ wrT (V i) g
noncomputable def cN (P : Int → Prop) (a : Int) : Nat → Int
  | 0 => 0
  | n + 1 => cN P a n + dI (P (a + n)) 1 0
def twn (V : Int → It) (k j : Int) : Prop := (V j 0 = V k 0 ∧ V j 3 = V k 3 ∧ V j 4 = V k 4 ∧ V j 5 = V k 5 ∧ V j 6 = V k 6) ∧ ¬ rdI (V j) (V j 1) ∧ nwB V (j + 1) (k - 1) (V j 1) ∧ (V j 3 = 2 → nwB V (j + 1) (k - 1) (V j 4)) ∧ (V j 5 = 2 → nwB V (j + 1) (k - 1) (V j 6))
/-- no LABEL and no twin between -/
def noT (V : Int → It) (k j : Int) : Prop := ∀ i, j < i → i < k → V i 0 ≠ 13 ∧ ¬ twn V k i
def TWF (V : Int → It) (k j : Int) : Prop := 0 ≤ j ∧ j < k ∧ V j 0 ≠ 13 ∧ twn V k j ∧ noT V k j
theorem TWF.det {V : Int → It} {k i j : Int} (h : TWF V k i) (g : TWF V k j) : i = j := by
  by_cases a : i < j
  · exact absurd g.2.2.2.1 (h.2.2.2.2 j a g.2.1).2
  · by_cases b : j < i
    · exact absurd h.2.2.2.1 (g.2.2.2.2 i b h.2.1).2
    · omega
def isF (i : It) : Prop := 1 ≤ i 0 ∧ i 0 ≤ 5
def ALI (V : Int → It) (k : Int) (V' : Int → It) (d : Int) : Prop := (∃ j, isF (V k) ∧ TWF V k j ∧ V' = uZ V k (cpyI (V k) 2 (V j 1)) ∧ d = 1) ∨ ((isF (V k) → ∀ j, ¬ TWF V k j) ∧ V' = V ∧ d = 0)
theorem ALI.det {V V1 V2 : Int → It} {k d1 d2 : Int} (h : ALI V k V1 d1) (g : ALI V k V2 d2) : V1 = V2 ∧ d1 = d2 := by
  rcases h with ⟨i, a, b, c, e⟩ | ⟨a, b, c⟩ <;> rcases g with ⟨j, p, q, r, s⟩ | ⟨p, q, r⟩
  · rw [b.det q] at c
    exact ⟨c.trans r.symm, e.trans s.symm⟩
  · exact absurd b (p a i)
  · exact absurd q (a p j)
  · exact ⟨b.trans q.symm, c.trans r.symm⟩
def ALS : Nat → (Int → It) → (Int → It) → Int → Prop
  | 0, V, V', w => V' = V ∧ w = 0
  | n + 1, V, V', w => ∃ V1 w1 d, ALS n V V1 w1 ∧ ALI V1 n V' d ∧ w = w1 + d
theorem ALS.det {n : Nat} {V V1 V2 : Int → It} {w1 w2 : Int} (h : ALS n V V1 w1) (g : ALS n V V2 w2) : V1 = V2 ∧ w1 = w2 := by
  induction n generalizing V1 V2 w1 w2 with
  | zero => exact ⟨h.1.trans g.1.symm, h.2.trans g.2.symm⟩
  | succ n ih =>
    obtain ⟨A, a, d, h1, h2, h3⟩ := h
    obtain ⟨B, b, e, g1, g2, g3⟩ := g
    obtain ⟨q1, q2⟩ := ih h1 g1
    subst q1
    obtain ⟨q3, q4⟩ := h2.det g2
    exact ⟨q3, by omega⟩
theorem ALS.s {k : Int} {V V1 V2 : Int → It} {w d : Int} (h : ALS k.toNat V V1 w) (h0 : 0 ≤ k) (g : ALI V1 k V2 d) : ALS (k + 1).toNat V V2 (w + d) := by
  rw [show (k + 1).toNat = k.toNat + 1 by omega]
  exact ⟨V1, w, d, h, by rw [show ((k.toNat : Nat) : Int) = k by omega]; exact g, rfl⟩
theorem rv_at {σ : MS} {r k c : Int} (h0 : 0 ≤ k) (h1 : k < σ.2.1 9 r) : rV σ r k c = rI σ (220 * r + k) c := by rw [rv_in h0 h1]
theorem noT.s {V : Int → It} {k j : Int} (h : noT V k j) (g : V j 0 ≠ 13 ∧ ¬ twn V k j) : noT V k (j - 1) := fun i a b => by
  by_cases e : i = j
  · subst e; exact g
  · exact h i (by omega) b
end
section
def mvK (H : Int → Prop) (n : Int) (V : Int → It) (p q k : Int) : Prop := V k 0 ≤ 5 ∧ ¬ H (V k 1) ∧ (∀ i, 0 ≤ i → i < n → i ≠ k → ¬ wrT (V i) (V k 1)) ∧ ∀ u, 0 ≤ u → u < 4 → V k (3 + 2 * u) = 2 → nwB V p q (V k (4 + 2 * u))
def liV (V : Int → It) (k p : Int) : Int → It := fun i => if i = p then V k else if p < i ∧ i ≤ k then V (i - 1) else V i
def mv1 (H : Int → Prop) (n : Int) (V : Int → It) (p q k : Int) : Prop := p ≤ k ∧ k ≤ q ∧ mvK H n V p q k ∧ ∀ i, p ≤ i → i < k → ¬ mvK H n V p q i
theorem mv1.det {H : Int → Prop} {n p q i j : Int} {V : Int → It} (h : mv1 H n V p q i) (g : mv1 H n V p q j) : i = j := by
  by_cases a : i < j
  · exact absurd h.2.2.1 (g.2.2.2 i h.1 a)
  · by_cases b : j < i
    · exact absurd g.2.2.1 (h.2.2.2 j g.1 b)
    · omega
def mvN (H : Int → Prop) (n : Int) (V : Int → It) (p q : Int) : Prop := ∀ i, p ≤ i → i ≤ q → ¬ mvK H n V p q i
def MVT (H : Int → Prop) (n q : Int) : Nat → (Int → It) → Int → (Int → It) → Int → Prop
  | 0, V, p, V', p' => V' = V ∧ p' = p
  | t + 1, V, p, V', p' => ∃ V1 p1 k, MVT H n q t V p V1 p1 ∧ mv1 H n V1 p1 q k ∧ V' = liV V1 k p1 ∧ p' = p1 + 1
section MV
variable {H : Int → Prop} {n q p : Int} {V A B : Int → It} {a b : Int}
theorem MVT.det {t : Nat} (h : MVT H n q t V p A a) (g : MVT H n q t V p B b) : A = B ∧ a = b := by
  induction t generalizing A B a b with
  | zero => exact ⟨h.1.trans g.1.symm, h.2.trans g.2.symm⟩
  | succ t ih =>
    obtain ⟨C, c, k, h1, h2, h3, h4⟩ := h
    obtain ⟨D, d, l, g1, g2, g3, g4⟩ := g
    obtain ⟨e1, e2⟩ := ih h1 g1
    subst e1 e2
    have e3 := h2.det g2
    subst e3
    exact ⟨h3.trans g3.symm, h4.trans g4.symm⟩
theorem MVT.cut {s t : Nat} (h : MVT H n q s V p A a) (g : t < s) : ∃ C c k, MVT H n q t V p C c ∧ mv1 H n C c q k := by
  induction s generalizing A a with
  | zero => omega
  | succ s ih =>
    obtain ⟨C, c, k, h1, h2, h3, h4⟩ := h
    by_cases e : t = s
    · subst e; exact ⟨C, c, k, h1, h2⟩
    · exact ih h1 (by omega)
theorem MVT.end {s t : Nat} (h : MVT H n q s V p A a) (hn : mvN H n A a q) (g : MVT H n q t V p B b) (gn : mvN H n B b q) : s = t ∧ A = B := by
  have e : s = t := by
    by_cases x : s < t
    · obtain ⟨C, c, k, h1, h2⟩ := g.cut x
      obtain ⟨e1, e2⟩ := h.det h1
      subst e1 e2
      exact absurd h2.2.2.1 (hn k h2.1 h2.2.1)
    · by_cases y : t < s
      · obtain ⟨C, c, k, h1, h2⟩ := h.cut y
        obtain ⟨e1, e2⟩ := g.det h1
        subst e1 e2
        exact absurd h2.2.2.1 (gn k h2.1 h2.2.1)
      · omega
  subst e
  exact ⟨rfl, (h.det g).1⟩
end MV
/-- the last JUMP back to the LABEL at p, or p -/
def LJ (V : Int → It) (n p q : Int) : Prop := p ≤ q ∧ q < n ∧ (p < q → V q 0 = 8 ∧ V q 1 = V p 1) ∧ ∀ i, q < i → i < n → ¬ (V i 0 = 8 ∧ V i 1 = V p 1)
theorem LJ.det {V : Int → It} {n p q u : Int} (h : LJ V n p q) (g : LJ V n p u) : q = u := by
  by_cases a : q < u
  · exact absurd (g.2.2.1 (by have := h.1; omega)) (h.2.2.2 u a g.2.1)
  · by_cases b : u < q
    · exact absurd (h.2.2.1 (by have := g.1; omega)) (g.2.2.2 q b h.2.1)
    · omega
def MVO (H : Int → Prop) (n : Int) (V : Int → It) (p0 : Int) (V' : Int → It) (d : Int) : Prop := (V p0 0 ≠ 13 ∧ V' = V ∧ d = 0) ∨ (V p0 0 = 13 ∧ ∃ q, LJ V n p0 q ∧ ((q = p0 ∧ V' = V ∧ d = 0) ∨ (p0 < q ∧ ∃ t : Nat, ∃ p', MVT H n q t V p0 V' p' ∧ mvN H n V' p' q ∧ d = t)))
theorem MVO.det {H : Int → Prop} {n p0 d e : Int} {V A B : Int → It} (h : MVO H n V p0 A d) (g : MVO H n V p0 B e) : A = B ∧ d = e := by
  rcases h with ⟨a, b, c⟩ | ⟨a, q, b, c⟩ <;> rcases g with ⟨x, y, z⟩ | ⟨x, u, y, z⟩
  · exact ⟨b.trans y.symm, c.trans z.symm⟩
  · exact absurd x a
  · exact absurd a x
  · have e1 := b.det y
    subst e1
    rcases c with ⟨c1, c2, c3⟩ | ⟨c1, s, p1, c2, c3, c4⟩ <;> rcases z with ⟨z1, z2, z3⟩ | ⟨z1, t, p2, z2, z3, z4⟩
    · exact ⟨c2.trans z2.symm, c3.trans z3.symm⟩
    · omega
    · omega
    · obtain ⟨q1, q2⟩ := c2.end c3 z2 z3
      subst q1
      exact ⟨q2, c4.trans z4.symm⟩
def MVA (H : Int → Prop) (n : Int) : Nat → (Int → It) → (Int → It) → Int → Prop
  | 0, V, V', w => V' = V ∧ w = 0
  | t + 1, V, V', w => ∃ V1 w1 d, MVA H n t V V1 w1 ∧ MVO H n V1 (n - 1 - t) V' d ∧ w = w1 + d
theorem MVA.det {H : Int → Prop} {n : Int} {t : Nat} {V A B : Int → It} {a b : Int} (h : MVA H n t V A a) (g : MVA H n t V B b) : A = B ∧ a = b := by
  induction t generalizing A B a b with
  | zero => exact ⟨h.1.trans g.1.symm, h.2.trans g.2.symm⟩
  | succ t ih =>
    obtain ⟨C, c, d, h1, h2, h3⟩ := h
    obtain ⟨D, e, f, g1, g2, g3⟩ := g
    obtain ⟨q1, q2⟩ := ih h1 g1
    subst q1
    obtain ⟨q3, q4⟩ := h2.det g2
    exact ⟨q3, by omega⟩
theorem MVA.s {H : Int → Prop} {n p d w : Int} {V V1 V2 : Int → It} (h : MVA H n (n - 1 - p).toNat V V1 w) (h0 : p < n) (g : MVO H n V1 p V2 d) : MVA H n (n - 1 - (p - 1)).toNat V V2 (w + d) := by
  rw [show (n - 1 - (p - 1)).toNat = (n - 1 - p).toNat + 1 by omega]
  exact ⟨V1, w, d, h, by rw [show n - 1 - (((n - 1 - p).toNat : Nat) : Int) = p by omega]; exact g, rfl⟩
end
section
def TGv (V : Int → It) (n k t : Int) : Prop := 0 ≤ t ∧ t < n ∧ V t 0 = 13 ∧ V t 1 = V k 1
def EDv (V : Int → It) (n k t : Int) : Prop := (¬ (V k 0 = 8 ∨ V k 0 = 7) ∧ t = k + 1) ∨ ((V k 0 = 8 ∨ V k 0 = 9) ∧ TGv V n k t)
/-- no LABEL stands twice -/
def UNQ (V : Int → It) (n : Int) : Prop := ∀ i j, 0 ≤ i → i < n → 0 ≤ j → j < n → V i 0 = 13 → V j 0 = 13 → V i 1 = V j 1 → i = j
/-- reached from s on, by ways that do not go on behind B -/
def RCG (V : Int → It) (n s : Int) (B : Int → Prop) (k : Int) : Prop := ∀ S : Int → Prop, S s → (∀ i t, 0 ≤ i → i < n → S i → ¬ B i → EDv V n i t → S t) → S k
theorem RCG.s {V : Int → It} {n s k t : Int} {B : Int → Prop} (h : RCG V n s B k) (h0 : 0 ≤ k) (h1 : k < n) (hb : ¬ B k) (e : EDv V n k t) : RCG V n s B t := fun S a b => b k t h0 h1 (h S a b) hb e
theorem RCG.z {V : Int → It} {n s : Int} {B : Int → Prop} : RCG V n s B s := fun _ a _ => a
def LVV (V : Int → It) (n k g : Int) : Prop := ∀ S : Int → Int → Prop, (∀ i g, 0 ≤ i → i < n → ((V i 0 ≠ 12 ∧ rdI (V i) g) ∨ (¬ wrT (V i) g ∧ ∃ t, EDv V n i t ∧ S t g)) → S i g) → S k g
theorem LVV.rd {V : Int → It} {n k g : Int} (h0 : 0 ≤ k) (h1 : k < n) (h : V k 0 ≠ 12) (hr : rdI (V k) g) : LVV V n k g := fun _ b => b k g h0 h1 (Or.inl ⟨h, hr⟩)
theorem LVV.on {V : Int → It} {n k g t : Int} (h0 : 0 ≤ k) (h1 : k < n) (hw : ¬ wrT (V k) g) (e : EDv V n k t) (h : LVV V n t g) : LVV V n k g := fun S b => b k g h0 h1 (Or.inr ⟨hw, t, e, h S b⟩)
section FLW
variable {σ τ : MS} {r k t n g : Int}
end FLW
def nrV (V : Int → It) (n k i : Int) : Prop := k < i ∧ i < n ∧ ∀ j, k < j → j ≤ i → V j 0 = 11 ∨ V j 0 = 12
def tkI (x y : It) : It := if x 0 = 0 then uZ (uZ (uZ y 11 (x 3)) 3 (x 3)) 4 (x 4) else uZ (uZ (uZ (uZ (uZ y 11 (x 0 + 2)) 3 (x 3)) 4 (x 4)) 5 (x 5)) 6 (x 6)
def goI (y : It) (w : Int) : It := uZ (uZ (uZ (uZ (uZ y 11 w) 3 0) 4 0) 5 0) 6 0
noncomputable def rbV (V : Int → It) (n k : Int) : Int → It := fun i =>
  dI (nrV V n k i ∧ V i 0 = 12 ∧ V i 11 = 2 ∧ V i 4 = V k 1) (tkI (V k) (V i))
    (dI ((0 ≤ i ∧ i < n) ∧ RCG V n (k + 1) (fun j => wrT (V j) (V k 1)) i ∧ V i 0 = 12 ∧ rdI (V i) (V k 1)) (goI (V i) 12) (V i))
def toV (V : Int → It) (k : Int) : Int → It := fun i => if i < k then V i else V (i + 1)
def dead (V : Int → It) (n k : Int) : Prop := V k 0 ≤ 5 ∧ ¬ LVV V n (k + 1) (V k 1)
def lastD (V : Int → It) (n k : Int) : Prop := 0 ≤ k ∧ k < n ∧ dead V n k ∧ ∀ i, k < i → i < n → ¬ dead V n i
theorem lastD.det {V : Int → It} {n i j : Int} (h : lastD V n i) (g : lastD V n j) : i = j := by
  by_cases a : i < j
  · exact absurd g.2.2.1 (h.2.2.2 j a g.2.1)
  · by_cases b : j < i
    · exact absurd h.2.2.1 (g.2.2.2 i b h.2.1)
    · omega
def DRT : Nat → (Int → It) → Int → (Int → It) → Int → Prop
  | 0, V, n, V', n' => V' = V ∧ n' = n
  | t + 1, V, n, V', n' => ∃ V1 n1 k, DRT t V n V1 n1 ∧ lastD V1 n1 k ∧ V' = toV (rbV V1 n1 k) k ∧ n' = n1 - 1
section DR
variable {V A B : Int → It} {n a b : Int}
theorem DRT.det {t : Nat} (h : DRT t V n A a) (g : DRT t V n B b) : A = B ∧ a = b := by
  induction t generalizing A B a b with
  | zero => exact ⟨h.1.trans g.1.symm, h.2.trans g.2.symm⟩
  | succ t ih =>
    obtain ⟨C, c, k, h1, h2, h3, h4⟩ := h
    obtain ⟨D, d, l, g1, g2, g3, g4⟩ := g
    obtain ⟨e1, e2⟩ := ih h1 g1
    subst e1 e2
    have e3 := h2.det g2
    subst e3
    exact ⟨h3.trans g3.symm, h4.trans g4.symm⟩
theorem DRT.cut {s t : Nat} (h : DRT s V n A a) (g : t < s) : ∃ C c k, DRT t V n C c ∧ lastD C c k := by
  induction s generalizing A a with
  | zero => omega
  | succ s ih =>
    obtain ⟨C, c, k, h1, h2, h3, h4⟩ := h
    by_cases e : t = s
    · subst e; exact ⟨C, c, k, h1, h2⟩
    · exact ih h1 (by omega)
theorem DRT.end {s t : Nat} (h : DRT s V n A a) (hn : ∀ k, ¬ lastD A a k) (g : DRT t V n B b) (gn : ∀ k, ¬ lastD B b k) : s = t ∧ A = B ∧ a = b := by
  have e : s = t := by
    by_cases x : s < t
    · obtain ⟨C, c, k, h1, h2⟩ := g.cut x
      obtain ⟨e1, e2⟩ := h.det h1
      subst e1 e2
      exact absurd h2 (hn k)
    · by_cases y : t < s
      · obtain ⟨C, c, k, h1, h2⟩ := h.cut y
        obtain ⟨e1, e2⟩ := g.det h1
        subst e1 e2
        exact absurd h2 (gn k)
      · omega
  subst e
  exact ⟨rfl, h.det g⟩
end DR
/-- what isn't reached goes out: of the first k items t are kept, w ACTS went -/
noncomputable def dr1 (V : Int → It) (n : Int) : Nat → Int × Int × (Int → It)
  | 0 => (0, 0, fun _ => zI)
  | k + 1 => dI (RCG V n 0 (fun _ => False) k) ((dr1 V n k).1 + 1, (dr1 V n k).2.1, uZ (dr1 V n k).2.2 (dr1 V n k).1 (V k)) ((dr1 V n k).1, (dr1 V n k).2.1 + (if V k 0 ≤ 10 then 1 else 0), (dr1 V n k).2.2)
def DRX (V : Int → It) (n : Int) (V' : Int → It) (n' w : Int) : Prop := ∃ t : Nat, DRT t (dr1 V n n.toNat).2.2 (dr1 V n n.toNat).1 V' n' ∧ (∀ k, ¬ lastD V' n' k) ∧ w = (dr1 V n n.toNat).2.1 + t
theorem DRX.det {V A B : Int → It} {n a b u v : Int} (h : DRX V n A a u) (g : DRX V n B b v) : A = B ∧ a = b ∧ u = v := by
  obtain ⟨s, h1, h2, h3⟩ := h
  obtain ⟨t, g1, g2, g3⟩ := g
  obtain ⟨e1, e2, e3⟩ := h1.end h2 g1 g2
  subst e1
  exact ⟨e2, e3, h3.trans g3.symm⟩
end
section
section RB
variable {σ0 σ τ : MS} {r n k0 g i k : Int}
end RB
theorem rb_13 {V : Int → It} {n k i : Int} : (rbV V n k i 0 = V i 0) ∧ (rbV V n k i 1 = V i 1) := by
  unfold rbV
  by_cases a : nrV V n k i ∧ V i 0 = 12 ∧ V i 11 = 2 ∧ V i 4 = V k 1
  · rw [dI_y a]
    unfold tkI
    by_cases b : V k 0 = 0
    · rw [if_pos b]; exact ⟨rfl, rfl⟩
    · rw [if_neg b]; exact ⟨rfl, rfl⟩
  · rw [dI_n a]
    by_cases b : (0 ≤ i ∧ i < n) ∧ RCG V n (k + 1) (fun j => wrT (V j) (V k 1)) i ∧ V i 0 = 12 ∧ rdI (V i) (V k 1)
    · rw [dI_y b]; exact ⟨rfl, rfl⟩
    · rw [dI_n b]; exact ⟨rfl, rfl⟩
theorem UNQ.out {V : Int → It} {n k : Int} (h : UNQ V n) : UNQ (toV (rbV V n k) k) (n - 1) := fun i j a b c d e f g => by
  unfold toV at e f g
  by_cases x : i < k <;> by_cases y : j < k
  · rw [if_pos x] at e g; rw [if_pos y] at f g; rw [rb_13.1] at e f; rw [rb_13.2, rb_13.2] at g
    exact h i j a (by omega) c (by omega) e f g
  · rw [if_pos x] at e g; rw [if_neg y] at f g; rw [rb_13.1] at e f; rw [rb_13.2, rb_13.2] at g
    have := h i (j + 1) a (by omega) (by omega) (by omega) e f g; omega
  · rw [if_neg x] at e g; rw [if_pos y] at f g; rw [rb_13.1] at e f; rw [rb_13.2, rb_13.2] at g
    have := h (i + 1) j (by omega) (by omega) c (by omega) e f g; omega
  · rw [if_neg x] at e g; rw [if_neg y] at f g; rw [rb_13.1] at e f; rw [rb_13.2, rb_13.2] at g
    have := h (i + 1) (j + 1) (by omega) (by omega) (by omega) (by omega) e f g; omega
/-- where kept items came from -/
theorem dr1_map {V : Int → It} {n : Int} (k : Nat) : ∃ s : Int → Int, 0 ≤ (dr1 V n k).1 ∧ (∀ j, 0 ≤ j → j < (dr1 V n k).1 → (0 ≤ s j ∧ s j < k) ∧ (dr1 V n k).2.2 j = V (s j)) ∧ ∀ i j, 0 ≤ i → i < j → j < (dr1 V n k).1 → s i < s j := by
  induction k with
  | zero => exact ⟨fun _ => 0, Int.le_refl _, fun j a b => absurd b (by show ¬ j < 0; omega), fun i j a b c => absurd c (by show ¬ j < 0; omega)⟩
  | succ k ih =>
    obtain ⟨s, h0, h1, h2⟩ := ih
    unfold dr1
    by_cases q : RCG V n 0 (fun _ => False) k
    · rw [dI_y q]
      refine ⟨fun j => if j < (dr1 V n k).1 then s j else k, by show 0 ≤ (dr1 V n k).1 + 1; omega, fun j a b => ?_, fun i j a b c => ?_⟩
      · have b' : j < (dr1 V n k).1 + 1 := b
        show (0 ≤ (if j < (dr1 V n k).1 then s j else (k : Int)) ∧ (if j < (dr1 V n k).1 then s j else (k : Int)) < ((k + 1 : Nat) : Int)) ∧ uZ (dr1 V n k).2.2 (dr1 V n k).1 (V k) j = V (if j < (dr1 V n k).1 then s j else k)
        by_cases w : j < (dr1 V n k).1
        · rw [if_pos w, uZ_ne (by omega)]
          have := h1 j a w
          exact ⟨by omega, this.2⟩
        · rw [if_neg w, show j = (dr1 V n k).1 by omega, uZ_eq]
          exact ⟨by omega, rfl⟩
      · have c' : j < (dr1 V n k).1 + 1 := c
        show (if i < (dr1 V n k).1 then s i else (k : Int)) < (if j < (dr1 V n k).1 then s j else (k : Int))
        rw [if_pos (by omega)]
        by_cases w : j < (dr1 V n k).1
        · rw [if_pos w]; exact h2 i j a b w
        · rw [if_neg w]; exact (h1 i a (by omega)).1.2
    · rw [dI_n q]
      exact ⟨s, h0, fun j a b => ⟨by have := (h1 j a b).1; omega, (h1 j a b).2⟩, h2⟩
theorem UNQ.dr1 {V : Int → It} {n : Int} (h : UNQ V n) (h0 : 0 ≤ n) : UNQ (dr1 V n n.toNat).2.2 (dr1 V n n.toNat).1 := fun i j a b c d e f g => by
  obtain ⟨s, s0, s1, s2⟩ := dr1_map (V := V) (n := n) n.toNat
  have hi := s1 i a b
  have hj := s1 j c d
  rw [hi.2] at e g
  rw [hj.2] at f g
  have q := h (s i) (s j) hi.1.1 (by omega) hj.1.1 (by omega) e f g
  by_cases x : i < j
  · have := s2 i j a x d; omega
  · by_cases y : j < i
    · have := s2 j i c y b; omega
    · omega
end
section
/-- by codes: H the names' registers -/
def rgV (V : Int → It) (n : Int) (H : Int → Prop) (B : Int) : Prop := (∀ g, H g → g < B) ∧ ∀ k, 0 ≤ k → k < n → ∀ g, wrT (V k) g ∨ rdI (V k) g → g < B
def mxV (P : Int → Prop) (v : Int) : Prop := 0 ≤ v ∧ P v ∧ ∀ B, 0 ≤ B → P B → v ≤ B
theorem mxV.det {P : Int → Prop} {u v : Int} (h : mxV P u) (g : mxV P v) : u = v := by
  have := h.2.2 v g.1 g.2.1
  have := g.2.2 u h.1 h.2.1
  omega
def lbV (V : Int → It) (n B : Int) : Prop := ∀ k, 0 ≤ k → k < n → (V k 0 = 8 ∨ V k 0 = 9 ∨ V k 0 = 13) → V k 1 < B
end
section
def bgV (V : Int → It) (n : Int) (P : Int → Prop) (g : Int) : Prop := P g ∨ LVV V n 0 g
def odW (V : Int → It) (n : Int) (x y : Int) : Prop := ∃ k, 0 ≤ k ∧ k < n ∧ wrT (V k) x ∧ LVV V n (k + 1) y
def odV (V : Int → It) (n : Int) (P : Int → Prop) (x y : Int) : Prop := x ≠ y ∧ ((bgV V n P x ∧ bgV V n P y) ∨ odW V n x y ∨ odW V n y x)
/-- each has the least number that none ahead of it at odds with it has -/
def nbV (od : Int → Int → Prop) (G : Int) (nb : Int → Int) : Prop := ∀ g, 0 ≤ g → g < G → 0 ≤ nb g ∧ (∀ b, 0 ≤ b → b < g → od g b → nb b ≠ nb g) ∧ ∀ m, 0 ≤ m → m < nb g → ∃ b, 0 ≤ b ∧ b < g ∧ od g b ∧ nb b = m
theorem nbV.det {od : Int → Int → Prop} {G : Int} {f h : Int → Int} (a : nbV od G f) (b : nbV od G h) : ∀ g, 0 ≤ g → g < G → f g = h g := by
  have key : ∀ t : Nat, ∀ g, 0 ≤ g → g < G → g < t → f g = h g := fun t => by
    induction t with
    | zero => intro g x y z; omega
    | succ t ih =>
      intro g x y z
      obtain ⟨a0, a1, a2⟩ := a g x y
      obtain ⟨b0, b1, b2⟩ := b g x y
      by_cases p : f g < h g
      · obtain ⟨c, c0, c1, c2, c3⟩ := b2 (f g) a0 p
        have := ih c c0 (by omega) (by omega)
        exact absurd (by omega) (a1 c c0 c1 c2)
      · by_cases q : h g < f g
        · obtain ⟨c, c0, c1, c2, c3⟩ := a2 (h g) b0 q
          have := ih c c0 (by omega) (by omega)
          exact absurd (by omega) (b1 c c0 c1 c2)
        · omega
  intro g x y
  exact key (g.toNat + 1) g x y (by omega)
def lsT (V : Int → It) (nb : Int → Int) (Si : Int → Prop) (i u : Int) : Prop := ((V i 0 ≤ 5 ∨ V i 0 = 10) ∧ u ≠ V i 1 ∧ (nb u = nb (V i 1) ∨ Si u)) ∨ (¬ (V i 0 ≤ 5 ∨ V i 0 = 10) ∧ Si u)
/-- what was written last to the new number of u is not u, by some way to k -/
def lsV (V : Int → It) (n : Int) (nb : Int → Int) (bg : Int → Prop) (k u : Int) : Prop := ∀ S : Int → Int → Prop, (∀ u, ¬ bg u → S 0 u) → (∀ i t u, 0 ≤ i → i < n → RCG V n 0 (fun _ => False) i → EDv V n i t → lsT V nb (S i) i u → S t u) → S k u
theorem lsT.mono {V : Int → It} {nb : Int → Int} {A B : Int → Prop} {i u : Int} (h : lsT V nb A i u) (q : A u → B u) : lsT V nb B i u := by
  rcases h with ⟨a, b, c⟩ | ⟨a, b⟩
  · exact Or.inl ⟨a, b, c.elim Or.inl (fun z => Or.inr (q z))⟩
  · exact Or.inr ⟨a, q b⟩
theorem lsV.s {V : Int → It} {n : Int} {nb : Int → Int} {bg : Int → Prop} {i t u : Int} (h0 : 0 ≤ i) (h1 : i < n) (hr : RCG V n 0 (fun _ => False) i) (e : EDv V n i t) (h : lsT V nb (lsV V n nb bg i) i u) : lsV V n nb bg t u := fun S a b => b i t u h0 h1 hr e (h.mono (fun z => z S a b))
theorem lsV.z {V : Int → It} {n : Int} {nb : Int → Int} {bg : Int → Prop} {u : Int} (h : ¬ bg u) : lsV V n nb bg 0 u := fun _ a _ => a u h
theorem lsV.cong {V : Int → It} {n N : Int} {f h : Int → Int} {bg : Int → Prop} (e : ∀ g, 0 ≤ g → g < N → f g = h g) (hw : ∀ i, 0 ≤ i → i < n → (V i 0 ≤ 5 ∨ V i 0 = 10) → 0 ≤ V i 1 ∧ V i 1 < N) {k u : Int} (u0 : 0 ≤ u) (u1 : u < N) (q : lsV V n f bg k u) : lsV V n h bg k u := by
  refine q (fun i v => 0 ≤ v ∧ v < N → lsV V n h bg i v) (fun v z _ => lsV.z z) (fun i t v a b c d z w => ?_) ⟨u0, u1⟩
  refine lsV.s a b c d ?_
  rcases z with ⟨z1, z2, z3⟩ | ⟨z1, z2⟩
  · refine Or.inl ⟨z1, z2, ?_⟩
    rcases z3 with z3 | z3
    · have r := hw i a b z1
      rw [e v w.1 w.2, e _ r.1 r.2] at z3
      exact Or.inl z3
    · exact Or.inr (z3 w)
  · exact Or.inr ⟨z1, z2 w⟩
noncomputable def ubV (V : Int → It) (n : Int) (nb : Int → Int) (bg : Int → Prop) : Int → It := fun k => dI ((0 ≤ k ∧ k < n) ∧ V k 0 = 12 ∧ RCG V n 0 (fun _ => False) k ∧ ∃ u, rdI (V k) u ∧ lsV V n nb bg k u) (goI (V k) 13) (V k)
def rnI (nb : Int → Int) (i : It) : It := fun c => if c = 1 ∧ (i 0 ≤ 5 ∨ i 0 = 10) then nb (i 1) else if (c = 4 ∨ c = 6 ∨ c = 8 ∨ c = 10) ∧ i (c - 1) = 2 then nb (i c) else i c
noncomputable def shV (V : Int → It) (n : Int) (nb : Int → Int) (bg : Int → Prop) : Int → It := fun k => if 0 ≤ k ∧ k < n then rnI nb (ubV V n nb bg k) else zI
section OW
variable {BG : Int → Prop} {V : Int → It} {n k g x y e : Int}
end OW
theorem nbV.c {od oe : Int → Int → Prop} {G : Int} {f : Int → Int} (h : nbV od G f) (e : ∀ x y, 0 ≤ x → x < G → 0 ≤ y → y < G → (od x y ↔ oe x y)) : nbV oe G f := fun g a b => by
  obtain ⟨p, q, r⟩ := h g a b
  refine ⟨p, fun c x y z => q c x y ((e g c a b x (by omega)).mpr z), fun m x y => ?_⟩
  obtain ⟨c, c0, c1, c2, c3⟩ := r m x y
  exact ⟨c, c0, c1, (e g c a b c0 (by omega)).mp c2, c3⟩
theorem nbV.put {od : Int → Int → Prop} {σ : MS} {g m : Int} (h : nbV od g (σ.2.1 64)) (h0 : 0 ≤ g ∧ 0 ≤ m) (hl : ∀ u, 0 ≤ u → u < m → ∃ b, 0 ≤ b ∧ b < g ∧ od g b ∧ σ.2.1 64 b = u) (hc : ∀ b, 0 ≤ b → b < g → ¬ (od g b ∧ σ.2.1 64 b = m)) : nbV od (g + 1) ((sA 64 g m σ).2.1 64) := fun u a b => by
  have lo : ∀ c, c < g → (sA 64 g m σ).2.1 64 c = σ.2.1 64 c := fun c q => ra_ne (by omega) rfl
  by_cases e : u = g
  · subst e
    rw [show (sA 64 u m σ).2.1 64 u = m from ra_eq]
    refine ⟨h0.2, fun c x y z => ?_, fun v x y => ?_⟩
    · rw [lo c y]; exact fun w => hc c x y ⟨z, w⟩
    · obtain ⟨c, c0, c1, c2, c3⟩ := hl v x y
      exact ⟨c, c0, c1, c2, by rw [lo c c1]; exact c3⟩
  · obtain ⟨p, q, r⟩ := h u a (by omega)
    rw [lo u (by omega)]
    refine ⟨p, fun c x y z => by rw [lo c (by omega)]; exact q c x y z, fun v x y => ?_⟩
    obtain ⟨c, c0, c1, c2, c3⟩ := r v x y
    exact ⟨c, c0, c1, c2, by rw [lo c (by omega)]; exact c3⟩
end
section
abbrev BB : Type := Int × (Int → It)
def bA (s : BB) (i : It) : BB := (s.1 + 1, uZ s.2 s.1 i)
def nmS (f base P : Int) (na : Int → Int) (x : It) (m : Int) (s : BB) : BB :=
  if m < P then bA (bA s (mkI 0 (base + na m) 0 (x (3 + 2 * m)) (x (4 + 2 * m)) 0)) (mkI 12 m f 2 (base + na m) 2)
  else bA s (mkI 12 m f 1 0 1)
def mb1 (f base P : Int) (na : Int → Int) (x : It) (s : BB) : Nat → BB
  | 0 => s
  | m + 1 => nmS f base P na x m (mb1 f base P na x s m)
noncomputable def mb2 (base : Int) (lv : Int → Prop) (s : BB) : Nat → BB
  | 0 => s
  | g + 1 => dI (lv g) (bA (mb2 base lv s g) (mkI 0 (base + g) 0 1 0 0)) (mb2 base lv s g)
/-- operands numbered on -/
def shO (base : Int) (i : It) : It := fun c => if (c = 4 ∨ c = 6 ∨ c = 8 ∨ c = 10) ∧ i (c - 1) = 2 then i c + base else i c
def mlI (f base lb : Int) (i : It) : It :=
  if i 0 = 8 ∨ i 0 = 9 ∨ i 0 = 13 then uZ (shO base i) 1 (i 1 + lb)
  else if i 0 = 11 ∨ i 0 = 12 then uZ (shO base i) 2 (i 2 + f)
  else if i 0 = 14 ∨ i 0 = 15 then uZ (shO base i) 1 (i 1 + f)
  else if i 0 = 6 then shO base i
  else uZ (shO base i) 1 (i 1 + base)
def mb3 (f base lb to out : Int) (V : Int → It) (s : BB) : Nat → BB
  | 0 => s
  | k + 1 => if V k 0 = 7 then bA (bA (mb3 f base lb to out V s k) (uZ (uZ (shO base (V k)) 0 0) 1 to)) (mkI 8 out 0 0 0 0) else bA (mb3 f base lb to out V s k) (mlI f base lb (V k))
section MB
variable {σ τ : MS} {k d o ak a w : Int}
end MB
section ML
variable {f base lb : Int} {i : It}
theorem ml_lab (h : i 0 = 8 ∨ i 0 = 9 ∨ i 0 = 13) : mlI f base lb i = uZ (shO base i) 1 (i 1 + lb) := if_pos h
end ML
end
section
noncomputable def mkB (f base lb out to P N nq : Int) (na : Int → Int) (x : It) (lv : Int → Prop) (Vq : Int → It) : BB :=
  bA (bA (mb3 f base lb to out Vq (mb2 base lv (mb1 f base P na x (bA (0, fun _ => zI) (mkI 14 f 0 0 0 0)) N.toNat) 192) nq.toNat) (mkI 13 out 0 0 0 0)) (mkI 15 f 0 0 0 0)
def spV (V : Int → It) (k a : Int) (B : Int → It) : Int → It := fun i => if i < k then V i else if i < k + a then B (i - k) else V (i - a + 1)
end
section
abbrev RTS : Type := Int × (Int → It) × Int × (Int → Int) × (Int → Int) × (Int → Int) × (Int → Int → Int)
def RTS.n (H : RTS) : Int := H.1
def RTS.V (H : RTS) : Int → It := H.2.1
def RTS.F (H : RTS) : Int := H.2.2.1
def RTS.fo (H : RTS) : Int → Int := H.2.2.2.1
def RTS.fi (H : RTS) : Int → Int := H.2.2.2.2.1
def RTS.fl (H : RTS) : Int → Int := H.2.2.2.2.2.1
def RTS.na (H : RTS) : Int → Int → Int := H.2.2.2.2.2.2
def rS (σ : MS) (r : Int) : RTS := (σ.2.1 9 r, rV σ r, σ.2.1 14 r, fun f => if 0 ≤ f ∧ f < σ.2.1 14 r then σ.2.1 15 (12 * r + f) else 0, fun f => if 0 ≤ f ∧ f < σ.2.1 14 r then σ.2.1 16 (12 * r + f) else 0, fun f => if 0 ≤ f ∧ f < σ.2.1 14 r then σ.2.1 17 (12 * r + f) else 0, fun f m => if (0 ≤ f ∧ f < σ.2.1 14 r) ∧ 0 ≤ m ∧ m < σ.2.1 12 (σ.2.1 15 (12 * r + f)) then σ.2.1 18 (144 * r + 12 * f + m) else 0)
def hmS (H : RTS) (NM : Int → Int) (g : Int) : Prop := ∃ f, 0 ≤ f ∧ f < H.F ∧ ∃ m, 0 ≤ m ∧ m < NM (H.fo f) ∧ H.na f m = g
def pmS (G : RTS) (P g : Int) : Prop := ∃ j, 0 ≤ j ∧ j < P ∧ G.na 0 j = g
def lvS (G : RTS) (P g : Int) : Prop := LVV G.V G.n 0 g ∧ ¬ pmS G P g
noncomputable def mkS (H G : RTS) (k base lb lq P N : Int) : BB := mkB H.F base lb (lb + lq) (H.V k 1) P N G.n (G.na 0) (H.V k) (lvS G P) G.V
noncomputable def mltS (H G : RTS) (k base lb lq j0 P N : Int) (NM : Int → Int) : RTS :=
  (H.n + (mkS H G k base lb lq P N).1 - 1, spV H.V k (mkS H G k base lb lq P N).1 (mkS H G k base lb lq P N).2, H.F + G.F,
   fun f => if f < H.F then H.fo f else if f < H.F + G.F then G.fo (f - H.F) else 0,
   fun f => if f < H.F then H.fi f else if f = H.F then H.V j0 2 else if f < H.F + G.F then G.fi (f - H.F) + H.F else 0,
   fun f => if f < H.F then H.fl f else if f = H.F then H.V j0 1 else if f < H.F + G.F then G.fl (f - H.F) else 0,
   fun f m => if f < H.F then H.na f m else if f < H.F + G.F ∧ 0 ≤ m ∧ m < NM (G.fo (f - H.F)) then G.na (f - H.F) m + base else 0)
def mlC (H G : RTS) (P N : Int) (NM : Int → Int) : Prop := (∀ j, 0 ≤ j → j < G.n → G.V j 0 ≠ 10) ∧ cN (fun j => G.V j 0 ≤ 10) 0 G.n.toNat ≤ 20 ∧ H.n + 2 + P + N + G.n + cN (lvS G P) 0 192 + cN (fun j => G.V j 0 = 7) 0 G.n.toNat ≤ 200 ∧ (∃ a b, mxV (rgV H.V H.n (hmS H NM)) a ∧ mxV (rgV G.V G.n (hmS G NM)) b ∧ a + b ≤ 100) ∧ H.F + G.F ≤ 12
def lnA (V : Int → It) (k j : Int) : Prop := 0 ≤ j ∧ j < k ∧ V j 0 = 11 ∧ ∀ i, j < i → i < k → V i 0 ≤ 5
theorem lnA.det {V : Int → It} {k i j : Int} (h : lnA V k i) (g : lnA V k j) : i = j := by
  by_cases a : i < j
  · have := h.2.2.2 j a g.2.1; have := g.2.2.1; omega
  · by_cases b : j < i
    · have := g.2.2.2 i b h.2.1; have := h.2.2.1; omega
    · omega
def MLD (r : Int) (Gs : Int → RTS) (PM NM : Int → Int) (H : RTS) (k : Int) : Prop := H.V k 0 = 10 ∧ H.V k 2 ≠ r ∧ mlC H (Gs (H.V k 2)) (PM (H.V k 2)) (NM (H.V k 2)) NM
/-- one item of MELT -/
def MLP (r : Int) (Gs : Int → RTS) (PM NM : Int → Int) (H : RTS) (k : Int) (H' : RTS) (k' d : Int) : Prop :=
  (∃ base lb lq j0, MLD r Gs PM NM H k ∧ mxV (rgV H.V H.n (hmS H NM)) base ∧ mxV (lbV H.V H.n) lb ∧ mxV (lbV (Gs (H.V k 2)).V (Gs (H.V k 2)).n) lq ∧ lnA H.V k j0 ∧ H' = mltS H (Gs (H.V k 2)) k base lb lq j0 (PM (H.V k 2)) (NM (H.V k 2)) NM ∧ k' = k + (mkS H (Gs (H.V k 2)) k base lb lq (PM (H.V k 2)) (NM (H.V k 2))).1 ∧ d = 1) ∨ (¬ MLD r Gs PM NM H k ∧ H' = H ∧ k' = k + 1 ∧ d = 0)
def MLR (r : Int) (Gs : Int → RTS) (PM NM : Int → Int) : Nat → RTS → Int → RTS → Int → Int → Prop
  | 0, H, k, H', k', w => H' = H ∧ k' = k ∧ w = 0
  | t + 1, H, k, H', k', w => ∃ H1 k1 w1 d, MLR r Gs PM NM t H k H1 k1 w1 ∧ k1 < H1.n ∧ MLP r Gs PM NM H1 k1 H' k' d ∧ w = w1 + d
section RSS
variable {σ τ : MS} {r q k v : Int}
theorem rs_V : (rS σ r).V = rV σ r := rfl
theorem rs_fr {ss ks js : List Nat} (f : Fr ss ks js σ τ) (h : ∀ k ∈ [3, 4, 5, 6, 7, 8, 9, 12, 14, 15, 16, 17, 18], k ∉ ks) : rS τ r = rS σ r := by
  unfold rS
  rw [rv_fr f (fun k q => h k (by simp at q ⊢; omega)), f.q h (k := 9) (by decide), f.q h (k := 12) (by decide), f.q h (k := 14) (by decide), f.q h (k := 15) (by decide), f.q h (k := 16) (by decide), f.q h (k := 17) (by decide), f.q h (k := 18) (by decide)]
end RSS
end
section
section MLS
variable {σ τ : MS} {r q k v : Int}
theorem mxV.c {P Q : Int → Prop} {v : Int} (h : mxV P v) (e : ∀ B, P B ↔ Q B) : mxV Q v := ⟨h.1, (e v).mp h.2.1, fun B a b => h.2.2 B a ((e B).mpr b)⟩
end MLS
end
section
noncomputable def shS (H : RTS) (P : Int) (NM nb : Int → Int) : RTS := (H.n, shV H.V H.n nb (bgV H.V H.n (pmS H P)), H.F, H.fo, H.fi, H.fl, fun f m => if (0 ≤ f ∧ f < H.F) ∧ 0 ≤ m ∧ m < NM (H.fo f) then nb (H.na f m) else 0)
def PSV (w r : Int) (Gs : Int → RTS) (PM NM : Int → Int) (H H' : RTS) (v : Int) : Prop :=
  (w = 0 ∧ (∃ K, foS H.V H.n.toNat = (K, H'.n, v, H'.V)) ∧ H'.2.2 = H.2.2) ∨
  (w = 1 ∧ DRX H.V H.n H'.V H'.n v ∧ H'.2.2 = H.2.2) ∨
  (w = 2 ∧ MVA (hmS H NM) H.n H.n.toNat H.V H'.V v ∧ H'.n = H.n ∧ H'.2.2 = H.2.2) ∨
  (w = 3 ∧ ALS H.n.toNat H.V H'.V v ∧ H'.n = H.n ∧ H'.2.2 = H.2.2) ∨
  (w = 4 ∧ ∃ t, MLR r Gs PM NM t H 0 H' H'.n v) ∨
  (w = 5 ∧ ∃ nb, nbV (odV H.V H.n (pmS H (PM r))) 192 nb ∧ (∀ g, 0 ≤ g → g < 192 → 0 ≤ nb g ∧ nb g < 192) ∧ H' = shS H (PM r) NM nb ∧ mxV (rgV H'.V H'.n (hmS H' NM)) v)
def PSX (σ τ : MS) (w r v : Int) : Prop := PSV w r (rS σ) (σ.2.1 11) (σ.2.1 12) (rS σ r) (rS τ r) v ∧ ∀ j, 0 ≤ j → j < σ.1 10 → j ≠ r → rS τ j = rS σ j
def PSQ (σ τ : MS) (w r v : Int) : Prop := (¬ (0 ≤ w ∧ w ≤ 5 ∧ 0 ≤ r ∧ r < σ.1 10) ∧ v = -1 ∧ ∀ j, rS τ j = rS σ j) ∨ ((0 ≤ w ∧ w ≤ 5 ∧ 0 ≤ r ∧ r < σ.1 10) ∧ PSX σ τ w r v)
section PSS
variable {σ τ υ : MS} {r w v : Int}
theorem PSX.s {ss ks js : List Nat} (h : PSX τ υ w r v) (f : Fr ss ks js σ τ) (hk : ∀ k ∈ [3, 4, 5, 6, 7, 8, 9, 11, 12, 14, 15, 16, 17, 18], k ∉ ks) (hs : 10 ∉ ss) : PSX σ υ w r v := by
  have e : ∀ j, rS τ j = rS σ j := fun j => rs_fr f (fun k q => hk k ((by decide : ∀ k ∈ [3, 4, 5, 6, 7, 8, 9, 12, 14, 15, 16, 17, 18], k ∈ [3, 4, 5, 6, 7, 8, 9, 11, 12, 14, 15, 16, 17, 18]) k q))
  have e' : rS τ = rS σ := funext e
  have h1 := h.1
  rw [e', f.q hk (k := 11) (by decide), f.q hk (k := 12) (by decide)] at h1
  exact ⟨h1, fun j a b c => by rw [← e j]; exact h.2 j a (by rw [f.1 10 hs]; exact b) c⟩
theorem MVA.c {H K : Int → Prop} {n : Int} {t : Nat} {V V' : Int → It} {w : Int} (h : MVA H n t V V' w) (e : ∀ g, K g ↔ H g) : MVA K n t V V' w := by
  rw [show K = H from funext (fun g => propext (e g))]; exact h
end PSS
end
section
theorem UNQ.map {V V' : Int → It} {n n' : Int} (h : UNQ V n) (s : Int → Int) (hs : ∀ i, 0 ≤ i → i < n' → V' i 0 = 13 → (0 ≤ s i ∧ s i < n) ∧ V (s i) 0 = 13 ∧ V (s i) 1 = V' i 1) (inj : ∀ i j, 0 ≤ i → i < n' → 0 ≤ j → j < n' → s i = s j → i = j) : UNQ V' n' := fun i j a b c d e f g => by
  obtain ⟨a1, a2, a3⟩ := hs i a b e
  obtain ⟨b1, b2, b3⟩ := hs j c d f
  exact inj i j a b c d (h _ _ a1.1 a1.2 b1.1 b1.2 a2 b2 (by rw [a3, b3, g]))
theorem UNQ.set {V : Int → It} {n k : Int} {x : It} (h : UNQ V n) (hx : x 0 ≠ 13) : UNQ (uZ V k x) n := by
  refine h.map (fun i => i) (fun i a b c => ?_) (fun i j _ _ _ _ e => e)
  have z : i ≠ k := fun e => by subst e; rw [uZ_eq] at c; exact hx c
  rw [uZ_ne z] at c ⊢
  exact ⟨⟨a, b⟩, c, rfl⟩
theorem UNQ.add {O : Int → It} {t : Int} {x : It} (h : UNQ O t) (hx : x 0 = 13 → ∀ i, 0 ≤ i → i < t → O i 0 = 13 → O i 1 ≠ x 1) : UNQ (uZ O t x) (t + 1) := fun i j a b c d e f g => by
  by_cases p : i = t <;> by_cases q : j = t
  · omega
  · subst p
    rw [uZ_eq] at e g; rw [uZ_ne q] at f g
    exact absurd g.symm (hx e j c (by omega) f)
  · subst q
    rw [uZ_eq] at f g; rw [uZ_ne p] at e g
    exact absurd g (hx f i a (by omega) e)
  · rw [uZ_ne p] at e g; rw [uZ_ne q] at f g
    exact h i j a (by omega) c (by omega) e f g
/-- FOLD -/
def fuI (V : Int → It) (n m : Int) (O : Int → It) : Prop := 0 ≤ m ∧ UNQ O m ∧ ∀ i, 0 ≤ i → i < m → O i 0 = 13 → ∃ s, (0 ≤ s ∧ s < n) ∧ V s 0 = 13 ∧ V s 1 = O i 1
theorem fuI.no {V : Int → It} {n m : Int} {O : Int → It} (h : fuI V n m O) : fuI V (n + 1) m O := ⟨h.1, h.2.1, fun i a b c => by
  obtain ⟨s, s1, s2⟩ := h.2.2 i a b c
  exact ⟨s, by omega, s2⟩⟩
theorem fuI.add {V : Int → It} {n m : Int} {O : Int → It} {x : It} (h : fuI V n m O) (hx : x 0 ≠ 13) : fuI V (n + 1) (m + 1) (uZ O m x) := by
  refine ⟨by have := h.1; omega, h.2.1.add (fun e => absurd e hx), fun i a b c => ?_⟩
  have z : i ≠ m := fun e => by subst e; rw [uZ_eq] at c; exact hx c
  rw [uZ_ne z] at c ⊢
  exact h.no.2.2 i a (by omega) c
theorem fuI.lab {V : Int → It} {n m N : Int} {O : Int → It} (h : fuI V n m O) (u : UNQ V N) (n0 : 0 ≤ n) (n1 : n < N) (hx : V n 0 = 13) : fuI V (n + 1) (m + 1) (uZ O m (V n)) := by
  refine ⟨by have := h.1; omega, h.2.1.add (fun e i a b c d => ?_), fun i a b c => ?_⟩
  · obtain ⟨s, s1, s2, s3⟩ := h.2.2 i a b c
    have := u s n s1.1 (by omega) n0 n1 s2 hx (s3.trans d)
    omega
  · by_cases z : i = m
    · subst z
      rw [uZ_eq] at c ⊢
      exact ⟨n, by omega, hx, rfl⟩
    · rw [uZ_ne z] at c ⊢
      exact h.no.2.2 i a (by omega) c
theorem fo_k {K : KN} {i : It} (h : i 0 ≤ 10) : foZ (foA (foO K i 4)) 0 ≠ 13 := by
  have e0 : foO K i 4 0 = i 0 := if_neg (by omega)
  have e1 : foA (foO K i 4) 0 ≤ 10 := by
    unfold foA
    by_cases a : five2 (foO K i 4)
    · rw [dI_y a]
      show uZ (uZ (uZ (uZ (uZ (foO K i 4) 0 0) 3 _) 4 _) 5 0) 6 0 0 ≤ 10
      rw [uZ_ne (by decide), uZ_ne (by decide), uZ_ne (by decide), uZ_ne (by decide), uZ_eq]
      decide
    · rw [dI_n a, e0]; exact h
  unfold foZ
  by_cases a : zer1 (foA (foO K i 4))
  · rw [dI_y a, uZ_ne (by decide), uZ_ne (by decide), uZ_eq]
    decide
  · rw [dI_n a]; omega
theorem fo_b {K : KN} {i : It} (h : i 0 = 12) : foB K i 0 ≠ 13 := by
  unfold foB
  by_cases a : i 11 = 2 ∧ (K (i 4)).1 = 1
  · rw [dI_y a, uZ_ne (by decide), uZ_ne (by decide), uZ_ne (by decide), h]; decide
  · rw [dI_n a, h]; decide
theorem UNQ.fold {V : Int → It} {N : Int} (u : UNQ V N) {n : Nat} (hn : (n : Int) ≤ N) : fuI V n (foS V n).2.1 (foS V n).2.2.2 := by
  induction n with
  | zero => exact ⟨Int.le_refl _, fun i j a b => absurd b (by show ¬ i < 0; omega), fun i a b => absurd b (by show ¬ i < 0; omega)⟩
  | succ n ih =>
    have h := ih (by omega)
    show fuI V ((n + 1 : Nat) : Int) (foT (foS V n) (V n)).2.1 (foT (foS V n) (V n)).2.2.2
    rw [show ((n + 1 : Nat) : Int) = (n : Int) + 1 by omega]
    unfold foT
    by_cases a : V n 0 = 13
    · rw [if_pos a]
      exact h.lab u (by omega) (by omega) a
    · rw [if_neg a]
      by_cases b : V n 0 = 12
      · rw [if_pos b]
        exact h.add (fo_b b)
      · rw [if_neg b]
        by_cases c : V n 0 ≤ 10
        · rw [if_pos c]
          unfold foX
          by_cases z : zer1 (foA (foO (foS V n).1 (V n) 4)) ∧ foA (foO (foS V n).1 (V n) 4) 4 ≠ 0
          · rw [dI_y z, dI_y z]; exact h.no
          · rw [dI_n z, dI_n z]; exact h.add (fo_k c)
        · rw [if_neg c]
          exact h.add a
/-- DROP -/
theorem UNQ.drt {t : Nat} {V V' : Int → It} {n n' : Int} (u : UNQ V n) (h : DRT t V n V' n') : UNQ V' n' := by
  induction t generalizing V' n' with
  | zero => rw [h.1, h.2]; exact u
  | succ t ih =>
    obtain ⟨V1, n1, k, h1, h2, h3, h4⟩ := h
    rw [h3, h4]
    exact (ih h1).out
theorem UNQ.drop {V V' : Int → It} {n n' w : Int} (u : UNQ V n) (n0 : 0 ≤ n) (h : DRX V n V' n' w) : UNQ V' n' := by
  obtain ⟨t, h1, _⟩ := h
  exact (u.dr1 n0).drt h1
/-- ALIKE -/
theorem UNQ.als {n : Nat} {N : Int} {V V' : Int → It} {w : Int} (u : UNQ V N) (h : ALS n V V' w) : UNQ V' N := by
  induction n generalizing V' w with
  | zero => rw [h.1]; exact u
  | succ n ih =>
    obtain ⟨V1, w1, d, h1, h2, h3⟩ := h
    rcases h2 with ⟨j, a, b, c, e⟩ | ⟨a, b, c⟩
    · rw [c]
      refine (ih h1).set ?_
      show uZ (uZ (uZ (uZ (uZ (V1 n) 0 0) 3 _) 4 _) 5 0) 6 0 0 ≠ 13
      rw [uZ_ne (by decide), uZ_ne (by decide), uZ_ne (by decide), uZ_ne (by decide), uZ_eq]
      decide
    · rw [b]; exact ih h1
/-- MOVE -/
theorem UNQ.li {V : Int → It} {n k p : Int} (u : UNQ V n) (h : 0 ≤ p ∧ p ≤ k ∧ k < n) : UNQ (liV V k p) n := by
  refine u.map (fun i => if i = p then k else if p < i ∧ i ≤ k then i - 1 else i) (fun i a b c => ?_) (fun i j a b c d e => ?_)
  · unfold liV at c ⊢
    by_cases x : i = p
    · rw [if_pos x] at c
      simp only [if_pos x]
      exact ⟨by omega, c, trivial⟩
    · by_cases y : p < i ∧ i ≤ k
      · rw [if_neg x, if_pos y] at c
        simp only [if_neg x, if_pos y]
        exact ⟨by omega, c, trivial⟩
      · rw [if_neg x, if_neg y] at c
        simp only [if_neg x, if_neg y]
        exact ⟨⟨a, b⟩, c, trivial⟩
  · have e : (if i = p then k else if p < i ∧ i ≤ k then i - 1 else i) = (if j = p then k else if p < j ∧ j ≤ k then j - 1 else j) := e
    by_cases x : i = p
    · rw [if_pos x] at e
      by_cases z : j = p
      · omega
      · rw [if_neg z] at e
        by_cases w : p < j ∧ j ≤ k
        · rw [if_pos w] at e; omega
        · rw [if_neg w] at e; omega
    · rw [if_neg x] at e
      by_cases y : p < i ∧ i ≤ k
      · rw [if_pos y] at e
        by_cases z : j = p
        · rw [if_pos z] at e; omega
        · rw [if_neg z] at e
          by_cases w : p < j ∧ j ≤ k
          · rw [if_pos w] at e; omega
          · rw [if_neg w] at e; omega
      · rw [if_neg y] at e
        by_cases z : j = p
        · rw [if_pos z] at e; omega
        · rw [if_neg z] at e
          by_cases w : p < j ∧ j ≤ k
          · rw [if_pos w] at e; omega
          · rw [if_neg w] at e; omega
theorem UNQ.mvt {H : Int → Prop} {n q p a : Int} {t : Nat} {V A : Int → It} (u : UNQ V n) (h : MVT H n q t V p A a) (h0 : 0 ≤ p) (h1 : q < n) : UNQ A n ∧ a = p + t := by
  induction t generalizing A a with
  | zero => rw [h.1, h.2]; exact ⟨u, by omega⟩
  | succ t ih =>
    obtain ⟨V1, p1, k, g1, g2, g3, g4⟩ := h
    obtain ⟨i1, i2⟩ := ih g1
    have z1 := g2.1
    have z2 := g2.2.1
    rw [g3, g4]
    exact ⟨i1.li (by omega), by omega⟩
theorem UNQ.mva {H : Int → Prop} {n w : Int} {t : Nat} {V V' : Int → It} (u : UNQ V n) (h : MVA H n t V V' w) (ht : (t : Int) ≤ n) : UNQ V' n := by
  induction t generalizing V' w with
  | zero => rw [h.1]; exact u
  | succ t ih =>
    obtain ⟨V1, w1, d, h1, h2, h3⟩ := h
    have i := ih h1 (by omega)
    rcases h2 with ⟨a, b, c⟩ | ⟨a, q, b, c⟩
    · rw [b]; exact i
    · rcases c with ⟨_, c, _⟩ | ⟨_, s, p', c, _⟩
      · rw [c]; exact i
      · exact (i.mvt c (by omega) b.2.1).1
/-- SHARE -/
theorem UNQ.sh {V : Int → It} {n : Int} {nb : Int → Int} {bg : Int → Prop} (u : UNQ V n) : UNQ (shV V n nb bg) n := by
  refine u.map (fun i => i) (fun i a b c => ?_) (fun i j _ _ _ _ e => e)
  have ek : ubV V n nb bg i 0 = V i 0 ∧ ubV V n nb bg i 1 = V i 1 := by
    unfold ubV
    by_cases z : (0 ≤ i ∧ i < n) ∧ V i 0 = 12 ∧ RCG V n 0 (fun _ => False) i ∧ ∃ u, rdI (V i) u ∧ lsV V n nb bg i u
    · rw [dI_y z]
      unfold goI
      rw [uZ_ne (by decide), uZ_ne (by decide), uZ_ne (by decide), uZ_ne (by decide), uZ_ne (by decide), uZ_ne (by decide), uZ_ne (by decide), uZ_ne (by decide), uZ_ne (by decide), uZ_ne (by decide)]
      exact ⟨rfl, rfl⟩
    · rw [dI_n z]; exact ⟨rfl, rfl⟩
  have e0 : shV V n nb bg i 0 = V i 0 := by
    unfold shV
    rw [if_pos ⟨a, b⟩]
    show (if (0 : Int) = 1 ∧ _ then _ else if ((0 : Int) = 4 ∨ (0 : Int) = 6 ∨ (0 : Int) = 8 ∨ (0 : Int) = 10) ∧ _ then _ else ubV V n nb bg i 0) = V i 0
    rw [if_neg (fun z => absurd z.1 (by decide)), if_neg (fun z => absurd z.1 (by decide)), ek.1]
  rw [e0] at c
  have e1 : shV V n nb bg i 1 = V i 1 := by
    unfold shV
    rw [if_pos ⟨a, b⟩]
    show (if (1 : Int) = 1 ∧ (ubV V n nb bg i 0 ≤ 5 ∨ ubV V n nb bg i 0 = 10) then _ else if ((1 : Int) = 4 ∨ (1 : Int) = 6 ∨ (1 : Int) = 8 ∨ (1 : Int) = 10) ∧ _ then _ else ubV V n nb bg i 1) = V i 1
    rw [if_neg (fun z => by have z2 := z.2; rw [ek.1, c] at z2; omega), if_neg (fun z => absurd z.1 (by decide)), ek.2]
  exact ⟨⟨a, b⟩, c, e1.symm⟩
end
section
def buI (V : Int → It) (lb k : Int) (s : BB) : Prop := 0 ≤ s.1 ∧ UNQ s.2 s.1 ∧ (∀ i, 0 ≤ i → i < s.1 → s.2 i 0 ≠ 10) ∧ ∀ i, 0 ≤ i → i < s.1 → s.2 i 0 = 13 → ∃ j, (0 ≤ j ∧ j < k) ∧ V j 0 = 13 ∧ V j 1 + lb = s.2 i 1
theorem buI.add {V : Int → It} {lb k : Int} {s : BB} {x : It} (h : buI V lb k s) (hx : x 0 ≠ 13) (hy : x 0 ≠ 10) : buI V lb k (bA s x) := by
  obtain ⟨h0, h1, h2, h3⟩ := h
  refine ⟨by show 0 ≤ s.1 + 1; omega, h1.add (fun e => absurd e hx), fun i a b => ?_, fun i a b c => ?_⟩
  · have b : i < s.1 + 1 := b
    show uZ s.2 s.1 x i 0 ≠ 10
    by_cases z : i = s.1
    · rw [z, uZ_eq]; exact hy
    · rw [uZ_ne z]; exact h2 i a (by omega)
  · have b : i < s.1 + 1 := b
    have c : uZ s.2 s.1 x i 0 = 13 := c
    have z : i ≠ s.1 := fun e => by rw [e, uZ_eq] at c; exact hx c
    rw [uZ_ne z] at c
    show ∃ j, (0 ≤ j ∧ j < k) ∧ V j 0 = 13 ∧ V j 1 + lb = uZ s.2 s.1 x i 1
    rw [uZ_ne z]
    exact h3 i a (by omega) c
theorem buI.up {V : Int → It} {lb k : Int} {s : BB} (h : buI V lb k s) : buI V lb (k + 1) s := ⟨h.1, h.2.1, h.2.2.1, fun i a b c => by
  obtain ⟨j, j1, j2⟩ := h.2.2.2 i a b c
  exact ⟨j, by omega, j2⟩⟩
theorem buI.lab {V : Int → It} {lb k n : Int} {s : BB} {x : It} (h : buI V lb k s) (u : UNQ V n) (k0 : 0 ≤ k) (k1 : k < n) (hk : V k 0 = 13) (hx : x 0 = 13) (h1 : x 1 = V k 1 + lb) : buI V lb (k + 1) (bA s x) := by
  obtain ⟨a0, a1, a2, a3⟩ := h
  refine ⟨by show 0 ≤ s.1 + 1; omega, a1.add (fun e i a b c d => ?_), fun i a b => ?_, fun i a b c => ?_⟩
  · obtain ⟨j, j1, j2, j3⟩ := a3 i a b c
    have := u j k j1.1 (by omega) k0 k1 j2 hk (by omega)
    omega
  · have b : i < s.1 + 1 := b
    show uZ s.2 s.1 x i 0 ≠ 10
    by_cases z : i = s.1
    · rw [z, uZ_eq, hx]; decide
    · rw [uZ_ne z]; exact a2 i a (by omega)
  · have b : i < s.1 + 1 := b
    have c : uZ s.2 s.1 x i 0 = 13 := c
    show ∃ j, (0 ≤ j ∧ j < k + 1) ∧ V j 0 = 13 ∧ V j 1 + lb = uZ s.2 s.1 x i 1
    by_cases z : i = s.1
    · rw [z, uZ_eq]
      exact ⟨k, by omega, hk, h1.symm⟩
    · rw [uZ_ne z] at c ⊢
      obtain ⟨j, j1, j2⟩ := a3 i a (by omega) c
      exact ⟨j, by omega, j2⟩
theorem mk_0 {k d o ak a w : Int} : mkI k d o ak a w 0 = k := rfl
theorem bu_1 {V : Int → It} {lb f base P : Int} {na : Int → Int} {x : It} {s : BB} {n : Nat} (h : buI V lb 0 s) : buI V lb 0 (mb1 f base P na x s n) := by
  induction n with
  | zero => exact h
  | succ n ih =>
    show buI V lb 0 (nmS f base P na x n (mb1 f base P na x s n))
    unfold nmS
    by_cases a : (n : Int) < P
    · rw [if_pos a]
      exact (ih.add (by rw [mk_0]; decide) (by rw [mk_0]; decide)).add (by rw [mk_0]; decide) (by rw [mk_0]; decide)
    · rw [if_neg a]
      exact ih.add (by rw [mk_0]; decide) (by rw [mk_0]; decide)
theorem bu_2 {V : Int → It} {lb base : Int} {lv : Int → Prop} {s : BB} {n : Nat} (h : buI V lb 0 s) : buI V lb 0 (mb2 base lv s n) := by
  induction n with
  | zero => exact h
  | succ n ih =>
    show buI V lb 0 (dI (lv n) (bA (mb2 base lv s n) _) (mb2 base lv s n))
    by_cases a : lv n
    · rw [dI_y a]
      exact ih.add (by rw [mk_0]; decide) (by rw [mk_0]; decide)
    · rw [dI_n a]; exact ih
theorem so_0 {base : Int} {i : It} : shO base i 0 = i 0 ∧ shO base i 1 = i 1 := ⟨if_neg (fun z => absurd z.1 (by decide)), if_neg (fun z => absurd z.1 (by decide))⟩
theorem ml_0 {f base lb : Int} {i : It} : mlI f base lb i 0 = i 0 := by
  unfold mlI
  by_cases a : i 0 = 8 ∨ i 0 = 9 ∨ i 0 = 13
  · rw [if_pos a, uZ_ne (by decide), so_0.1]
  · rw [if_neg a]
    by_cases b : i 0 = 11 ∨ i 0 = 12
    · rw [if_pos b, uZ_ne (by decide), so_0.1]
    · rw [if_neg b]
      by_cases c : i 0 = 14 ∨ i 0 = 15
      · rw [if_pos c, uZ_ne (by decide), so_0.1]
      · rw [if_neg c]
        by_cases d : i 0 = 6
        · rw [if_pos d, so_0.1]
        · rw [if_neg d, uZ_ne (by decide), so_0.1]
theorem bu_3 {V : Int → It} {f base lb to out n : Int} {s : BB} {k : Nat} (h : buI V lb 0 s) (u : UNQ V n) (hc : ∀ j, 0 ≤ j → j < n → V j 0 ≠ 10) (hk : (k : Int) ≤ n) : buI V lb k (mb3 f base lb to out V s k) := by
  induction k with
  | zero => exact h
  | succ k ih =>
    have i := ih (by omega)
    rw [show ((k + 1 : Nat) : Int) = (k : Int) + 1 by omega]
    show buI V lb ((k : Int) + 1) (if V k 0 = 7 then bA (bA (mb3 f base lb to out V s k) (uZ (uZ (shO base (V k)) 0 0) 1 to)) (mkI 8 out 0 0 0 0) else bA (mb3 f base lb to out V s k) (mlI f base lb (V k)))
    by_cases a : V k 0 = 7
    · rw [if_pos a]
      exact ((i.up).add (by rw [uZ_ne (by decide), uZ_eq]; decide) (by rw [uZ_ne (by decide), uZ_eq]; decide)).add (by rw [mk_0]; decide) (by rw [mk_0]; decide)
    · rw [if_neg a]
      by_cases b : V k 0 = 13
      · exact i.lab u (by omega) (by omega) b (by rw [ml_0]; exact b) (by rw [ml_lab (Or.inr (Or.inr b)), uZ_eq])
      · exact (i.up).add (by rw [ml_0]; exact b) (by rw [ml_0]; exact hc k (by omega) (by omega))
def LZ (V : Int → It) (n : Int) : Prop := ∀ i, 0 ≤ i → i < n → V i 0 = 13 → 0 ≤ V i 1
def CLQ (V : Int → It) (n C : Int) : Prop := ∀ i, 0 ≤ i → i < n → V i 0 = 10 → 0 ≤ V i 2 ∧ V i 2 < C
theorem bu_m {f base lb lq to P N nq : Int} {na : Int → Int} {x : It} {lv : Int → Prop} {V : Int → It} (u : UNQ V nq) (z : LZ V nq) (hn : 0 ≤ nq) (hc : ∀ j, 0 ≤ j → j < nq → V j 0 ≠ 10) (hl : lbV V nq lq) (l0 : 0 ≤ lq) : 0 ≤ (mkB f base lb (lb + lq) to P N nq na x lv V).1 ∧ UNQ (mkB f base lb (lb + lq) to P N nq na x lv V).2 (mkB f base lb (lb + lq) to P N nq na x lv V).1 ∧ ∀ i, 0 ≤ i → i < (mkB f base lb (lb + lq) to P N nq na x lv V).1 → (mkB f base lb (lb + lq) to P N nq na x lv V).2 i 0 ≠ 10 ∧ ((mkB f base lb (lb + lq) to P N nq na x lv V).2 i 0 = 13 → lb ≤ (mkB f base lb (lb + lq) to P N nq na x lv V).2 i 1) := by
  unfold mkB
  have b0 : buI V lb 0 (0, fun _ => zI) := ⟨Int.le_refl _, fun i j a b => absurd b (by show ¬ i < 0; omega), fun i a b => absurd b (by show ¬ i < 0; omega), fun i a b => absurd b (by show ¬ i < 0; omega)⟩
  have b3 := bu_3 (f := f) (base := base) (to := to) (out := lb + lq) (k := nq.toNat) (bu_2 (base := base) (lv := lv) (n := 192) (bu_1 (f := f) (base := base) (P := P) (na := na) (x := x) (n := N.toNat) (b0.add (x := mkI 14 f 0 0 0 0) (by rw [mk_0]; decide) (by rw [mk_0]; decide)))) u hc (by omega)
  generalize hs : mb3 f base lb to (lb + lq) V (mb2 base lv (mb1 f base P na x (bA (0, fun _ => zI) (mkI 14 f 0 0 0 0)) N.toNat) 192) nq.toNat = s at b3
  obtain ⟨c0, c1, c2, c3⟩ := b3
  have hi : ∀ i, 0 ≤ i → i < s.1 → s.2 i 0 = 13 → lb ≤ s.2 i 1 ∧ s.2 i 1 < lb + lq := fun i a b c => by
    obtain ⟨j, j1, j2, j3⟩ := c3 i a b c
    have z1 := z j j1.1 (by omega) j2
    have z2 := hl j j1.1 (by omega) (Or.inr (Or.inr j2))
    omega
  have u1 : UNQ (uZ s.2 s.1 (mkI 13 (lb + lq) 0 0 0 0)) (s.1 + 1) := c1.add (fun _ i a b c d => by have := hi i a b c; have e : mkI 13 (lb + lq) 0 0 0 0 1 = lb + lq := rfl; rw [e] at d; omega)
  have u2 : UNQ (uZ (uZ s.2 s.1 (mkI 13 (lb + lq) 0 0 0 0)) (s.1 + 1) (mkI 15 f 0 0 0 0)) (s.1 + 1 + 1) := u1.add (fun e => absurd e (by rw [mk_0]; decide))
  refine ⟨by show 0 ≤ s.1 + 1 + 1; omega, u2, fun i a b => ?_⟩
  have b : i < s.1 + 1 + 1 := b
  show uZ (uZ s.2 s.1 (mkI 13 (lb + lq) 0 0 0 0)) (s.1 + 1) (mkI 15 f 0 0 0 0) i 0 ≠ 10 ∧ (uZ (uZ s.2 s.1 (mkI 13 (lb + lq) 0 0 0 0)) (s.1 + 1) (mkI 15 f 0 0 0 0) i 0 = 13 → lb ≤ uZ (uZ s.2 s.1 (mkI 13 (lb + lq) 0 0 0 0)) (s.1 + 1) (mkI 15 f 0 0 0 0) i 1)
  by_cases p : i = s.1 + 1
  · rw [p, uZ_eq, mk_0]; exact ⟨by decide, fun e => absurd e (by decide)⟩
  · rw [uZ_ne p]
    by_cases q : i = s.1
    · rw [q, uZ_eq, mk_0]; exact ⟨by decide, fun _ => by show lb ≤ lb + lq; omega⟩
    · rw [uZ_ne q]
      exact ⟨c2 i a (by omega), fun e => (hi i a (by omega) e).1⟩
theorem UNQ.sp {V B : Int → It} {n k a lb : Int} (u : UNQ V n) (hl : lbV V n lb) (ub : UNQ B a) (hb : ∀ i, 0 ≤ i → i < a → B i 0 = 13 → lb ≤ B i 1) (hk : 0 ≤ k ∧ k < n) (a0 : 0 ≤ a) : UNQ (spV V k a B) (n + a - 1) := fun i j x1 x2 y1 y2 e f g => by
  have cls : ∀ i, 0 ≤ i → i < n + a - 1 → spV V k a B i 0 = 13 → (∃ s, (0 ≤ s ∧ s < n ∧ s ≠ k) ∧ V s 0 = 13 ∧ V s 1 = spV V k a B i 1 ∧ spV V k a B i 1 < lb ∧ i = (if s < k then s else s + a - 1)) ∨ (∃ s, (0 ≤ s ∧ s < a) ∧ B s 0 = 13 ∧ B s 1 = spV V k a B i 1 ∧ lb ≤ spV V k a B i 1 ∧ i = k + s) := fun i x1 x2 e => by
    unfold spV at e ⊢
    by_cases p : i < k
    · rw [if_pos p] at e
      refine Or.inl ⟨i, by omega, e, ?_⟩
      rw [if_pos p, if_pos p]
      exact ⟨rfl, hl i x1 (by omega) (Or.inr (Or.inr e)), rfl⟩
    · rw [if_neg p] at e
      by_cases q : i < k + a
      · rw [if_pos q] at e
        refine Or.inr ⟨i - k, by omega, e, ?_⟩
        rw [if_neg p, if_pos q]
        exact ⟨rfl, hb _ (by omega) (by omega) e, by omega⟩
      · rw [if_neg q] at e
        refine Or.inl ⟨i - a + 1, by omega, e, ?_⟩
        rw [if_neg p, if_neg q, if_neg (show ¬ i - a + 1 < k by omega)]
        exact ⟨rfl, hl _ (by omega) (by omega) (Or.inr (Or.inr e)), by omega⟩
  rcases cls i x1 x2 e with ⟨s, s1, s2, s3, s4, s5⟩ | ⟨s, s1, s2, s3, s4, s5⟩ <;> rcases cls j y1 y2 f with ⟨t, t1, t2, t3, t4, t5⟩ | ⟨t, t1, t2, t3, t4, t5⟩
  · have z := u s t s1.1 s1.2.1 t1.1 t1.2.1 s2 t2 (by rw [s3, t3, g])
    rw [s5, t5, z]
  · omega
  · omega
  · have z := ub s t s1.1 s1.2 t1.1 t1.2 s2 t2 (by rw [s3, t3, g])
    rw [s5, t5, z]
theorem CLQ.sp {V B : Int → It} {n k a C : Int} (u : CLQ V n C) (hb : ∀ i, 0 ≤ i → i < a → B i 0 ≠ 10) (hk : 0 ≤ k ∧ k < n) : CLQ (spV V k a B) (n + a - 1) C := fun i x1 x2 e => by
  unfold spV at e ⊢
  by_cases p : i < k
  · rw [if_pos p] at e ⊢
    exact u i x1 (by omega) e
  · rw [if_neg p] at e ⊢
    by_cases q : i < k + a
    · rw [if_pos q] at e
      exact absurd e (hb _ (by omega) (by omega))
    · rw [if_neg q] at e ⊢
      exact u _ (by omega) (by omega) e
theorem MLR.un {r C : Int} {Gs : Int → RTS} {PM NM : Int → Int} {t : Nat} {H H' : RTS} {k k' w : Int} (h : MLR r Gs PM NM t H k H' k' w) (k0 : 0 ≤ k) (u : UNQ H.V H.n) (c : CLQ H.V H.n C) (hg : ∀ q, 0 ≤ q → q < C → 0 ≤ (Gs q).n ∧ UNQ (Gs q).V (Gs q).n ∧ LZ (Gs q).V (Gs q).n) : 0 ≤ k' ∧ UNQ H'.V H'.n ∧ CLQ H'.V H'.n C := by
  induction t generalizing H' k' w with
  | zero => rw [h.1, h.2.1]; exact ⟨k0, u, c⟩
  | succ t ih =>
    obtain ⟨H1, k1, w1, d, h1, h2, h3, h4⟩ := h
    obtain ⟨i0, i1, i2⟩ := ih h1
    rcases h3 with ⟨base, lb, lq, j0, m, m1, m2, m3, m4, e1, e2, e3⟩ | ⟨m, e1, e2, e3⟩
    · have q := i2 k1 i0 h2 m.1
      obtain ⟨g0, g1, g2⟩ := hg _ q.1 q.2
      have b := bu_m (f := H1.F) (base := base) (lb := lb) (lq := lq) (to := H1.V k1 1) (P := PM (H1.V k1 2)) (N := NM (H1.V k1 2)) (na := (Gs (H1.V k1 2)).na 0) (x := H1.V k1) (lv := lvS (Gs (H1.V k1 2)) (PM (H1.V k1 2))) g1 g2 g0 m.2.2.1 m3.2.1 m3.1
      have b : 0 ≤ (mkS H1 (Gs (H1.V k1 2)) k1 base lb lq (PM (H1.V k1 2)) (NM (H1.V k1 2))).1 ∧ UNQ (mkS H1 (Gs (H1.V k1 2)) k1 base lb lq (PM (H1.V k1 2)) (NM (H1.V k1 2))).2 (mkS H1 (Gs (H1.V k1 2)) k1 base lb lq (PM (H1.V k1 2)) (NM (H1.V k1 2))).1 ∧ ∀ i, 0 ≤ i → i < (mkS H1 (Gs (H1.V k1 2)) k1 base lb lq (PM (H1.V k1 2)) (NM (H1.V k1 2))).1 → (mkS H1 (Gs (H1.V k1 2)) k1 base lb lq (PM (H1.V k1 2)) (NM (H1.V k1 2))).2 i 0 ≠ 10 ∧ ((mkS H1 (Gs (H1.V k1 2)) k1 base lb lq (PM (H1.V k1 2)) (NM (H1.V k1 2))).2 i 0 = 13 → lb ≤ (mkS H1 (Gs (H1.V k1 2)) k1 base lb lq (PM (H1.V k1 2)) (NM (H1.V k1 2))).2 i 1) := b
      rw [e1, e2]
      exact ⟨by omega, i1.sp m2.2.1 b.2.1 (fun i x y => (b.2.2 i x y).2) ⟨i0, h2⟩ b.1, i2.sp (fun i x y => (b.2.2 i x y).1) ⟨i0, h2⟩⟩
    · rw [e1, e2]
      exact ⟨by omega, i1, i2⟩
end
section
theorem MLP.det {r : Int} {Gs : Int → RTS} {PM NM : Int → Int} {H A B : RTS} {k a b d e : Int} (h : MLP r Gs PM NM H k A a d) (g : MLP r Gs PM NM H k B b e) : A = B ∧ a = b ∧ d = e := by
  rcases h with ⟨x1, x2, x3, x4, m, m1, m2, m3, m4, e1, e2, e3⟩ | ⟨m, e1, e2, e3⟩ <;> rcases g with ⟨y1, y2, y3, y4, n, n1, n2, n3, n4, f1, f2, f3⟩ | ⟨n, f1, f2, f3⟩
  · have z1 := m1.det n1
    have z2 := m2.det n2
    have z3 := m3.det n3
    have z4 := m4.det n4
    subst z1 z2 z3 z4
    exact ⟨e1.trans f1.symm, e2.trans f2.symm, e3.trans f3.symm⟩
  · exact absurd m n
  · exact absurd n m
  · exact ⟨e1.trans f1.symm, e2.trans f2.symm, e3.trans f3.symm⟩
theorem MLR.det {r : Int} {Gs : Int → RTS} {PM NM : Int → Int} {t : Nat} {H A B : RTS} {k a b d e : Int} (h : MLR r Gs PM NM t H k A a d) (g : MLR r Gs PM NM t H k B b e) : A = B ∧ a = b ∧ d = e := by
  induction t generalizing A B a b d e with
  | zero => exact ⟨h.1.trans g.1.symm, h.2.1.trans g.2.1.symm, h.2.2.trans g.2.2.symm⟩
  | succ t ih =>
    obtain ⟨H1, k1, w1, d1, h1, h2, h3, h4⟩ := h
    obtain ⟨H2, k2, w2, d2, g1, g2, g3, g4⟩ := g
    obtain ⟨z1, z2, z3⟩ := ih h1 g1
    subst z1 z2 z3
    obtain ⟨y1, y2, y3⟩ := h3.det g3
    subst y1 y2 y3
    exact ⟨rfl, rfl, h4.trans g4.symm⟩
theorem MLR.cut {r : Int} {Gs : Int → RTS} {PM NM : Int → Int} {s t : Nat} {H A : RTS} {k a d : Int} (h : MLR r Gs PM NM s H k A a d) (g : t < s) : ∃ B b e, MLR r Gs PM NM t H k B b e ∧ b < B.n := by
  induction s generalizing A a d with
  | zero => omega
  | succ s ih =>
    obtain ⟨H1, k1, w1, d1, h1, h2, h3, h4⟩ := h
    by_cases e : t = s
    · subst e; exact ⟨H1, k1, w1, h1, h2⟩
    · exact ih h1 (by omega)
theorem MLR.end {r : Int} {Gs : Int → RTS} {PM NM : Int → Int} {s t : Nat} {H A B : RTS} {k d e : Int} (h : MLR r Gs PM NM s H k A A.n d) (g : MLR r Gs PM NM t H k B B.n e) : A = B ∧ d = e := by
  have z : s = t := by
    by_cases x : s < t
    · obtain ⟨C, c, f, h1, h2⟩ := g.cut x
      obtain ⟨e1, e2, e3⟩ := h.det h1
      subst e1
      omega
    · by_cases y : t < s
      · obtain ⟨C, c, f, h1, h2⟩ := h.cut y
        obtain ⟨e1, e2, e3⟩ := g.det h1
        subst e1
        omega
      · omega
  subst z
  have q := h.det g
  exact ⟨q.1, q.2.2⟩
/-- the REGISTERS are numbered under 192 -/
def RGK (H : RTS) (NM : Int → Int) : Prop := (∀ i, 0 ≤ i → i < H.n → (H.V i 0 ≤ 5 ∨ H.V i 0 = 10) → 0 ≤ H.V i 1 ∧ H.V i 1 < 192) ∧ (∀ i, 0 ≤ i → i < H.n → ∀ j, 0 ≤ j → j < 4 → H.V i (3 + 2 * j) = 2 → 0 ≤ H.V i (4 + 2 * j) ∧ H.V i (4 + 2 * j) < 192) ∧ ∀ f m, 0 ≤ f → f < H.F → 0 ≤ m → m < NM (H.fo f) → 0 ≤ H.na f m ∧ H.na f m < 192
theorem ub_c {V : Int → It} {n : Int} {f h : Int → Int} {bg : Int → Prop} (e : ∀ g, 0 ≤ g → g < 192 → f g = h g) (hw : ∀ i, 0 ≤ i → i < n → (V i 0 ≤ 5 ∨ V i 0 = 10) → 0 ≤ V i 1 ∧ V i 1 < 192) (hr : ∀ i, 0 ≤ i → i < n → ∀ j, 0 ≤ j → j < 4 → V i (3 + 2 * j) = 2 → 0 ≤ V i (4 + 2 * j) ∧ V i (4 + 2 * j) < 192) : ubV V n f bg = ubV V n h bg := by
  funext k
  unfold ubV
  refine dI_c ?_
  have rd : ∀ u, 0 ≤ k → k < n → rdI (V k) u → 0 ≤ u ∧ u < 192 := fun u a b z => by
    obtain ⟨j, j0, j1, j2, j3⟩ := z
    rw [← j3]; exact hr k a b j j0 j1 j2
  constructor
  · rintro ⟨a, b, c, u, d, q⟩
    have r := rd u a.1 a.2 d
    exact ⟨a, b, c, u, d, lsV.cong e hw r.1 r.2 q⟩
  · rintro ⟨a, b, c, u, d, q⟩
    have r := rd u a.1 a.2 d
    exact ⟨a, b, c, u, d, lsV.cong (fun g x y => (e g x y).symm) hw r.1 r.2 q⟩
theorem rn_c {f h : Int → Int} {i : It} (e : ∀ g, 0 ≤ g → g < 192 → f g = h g) (h1 : (i 0 ≤ 5 ∨ i 0 = 10) → 0 ≤ i 1 ∧ i 1 < 192) (h2 : ∀ j, 0 ≤ j → j < 4 → i (3 + 2 * j) = 2 → 0 ≤ i (4 + 2 * j) ∧ i (4 + 2 * j) < 192) : rnI f i = rnI h i := by
  funext c
  unfold rnI
  by_cases a : c = 1 ∧ (i 0 ≤ 5 ∨ i 0 = 10)
  · rw [if_pos a, if_pos a]
    have r := h1 a.2
    exact e _ r.1 r.2
  · rw [if_neg a, if_neg a]
    by_cases b : (c = 4 ∨ c = 6 ∨ c = 8 ∨ c = 10) ∧ i (c - 1) = 2
    · rw [if_pos b, if_pos b]
      obtain ⟨b1, b2⟩ := b
      have r : 0 ≤ i c ∧ i c < 192 := by
        rcases b1 with z | z | z | z <;> subst z
        · exact h2 0 (by decide) (by decide) b2
        · exact h2 1 (by decide) (by decide) b2
        · exact h2 2 (by decide) (by decide) b2
        · exact h2 3 (by decide) (by decide) b2
      exact e _ r.1 r.2
    · rw [if_neg b, if_neg b]
theorem sh_c {H : RTS} {P : Int} {NM f h : Int → Int} (e : ∀ g, 0 ≤ g → g < 192 → f g = h g) (k : RGK H NM) : shS H P NM f = shS H P NM h := by
  obtain ⟨k1, k2, k3⟩ := k
  unfold shS
  refine Prod.ext rfl (Prod.ext ?_ (Prod.ext rfl (Prod.ext rfl (Prod.ext rfl (Prod.ext rfl ?_)))))
  · show shV H.V H.n f (bgV H.V H.n (pmS H P)) = shV H.V H.n h (bgV H.V H.n (pmS H P))
    unfold shV
    rw [ub_c e k1 k2]
    funext i
    by_cases a : 0 ≤ i ∧ i < H.n
    · rw [if_pos a, if_pos a]
      unfold ubV
      by_cases z : (0 ≤ i ∧ i < H.n) ∧ H.V i 0 = 12 ∧ RCG H.V H.n 0 (fun _ => False) i ∧ ∃ u, rdI (H.V i) u ∧ lsV H.V H.n h (bgV H.V H.n (pmS H P)) i u
      · rw [dI_y z]
        unfold goI
        refine rn_c e (fun w => ?_) (fun j j0 j1 w => ?_)
        · rw [uZ_ne (by decide), uZ_ne (by decide), uZ_ne (by decide), uZ_ne (by decide), uZ_ne (by decide)] at w
          have := z.2.1; omega
        · by_cases j3 : j = 0
          · subst j3
            rw [uZ_ne (by decide), uZ_ne (by decide), uZ_ne (by decide), show (3 + 2 * 0 : Int) = 3 by decide, uZ_eq] at w
            exact absurd w (by decide)
          · by_cases j4 : j = 1
            · subst j4
              rw [uZ_ne (by decide), show (3 + 2 * 1 : Int) = 5 by decide, uZ_eq] at w
              exact absurd w (by decide)
            · rw [uZ_ne (by omega), uZ_ne (by omega), uZ_ne (by omega), uZ_ne (by omega), uZ_ne (by omega)] at w
              rw [uZ_ne (by omega), uZ_ne (by omega), uZ_ne (by omega), uZ_ne (by omega), uZ_ne (by omega)]
              exact k2 i a.1 a.2 j j0 j1 w
      · rw [dI_n z]
        exact rn_c e (k1 i a.1 a.2) (k2 i a.1 a.2)
    · rw [if_neg a, if_neg a]
  · funext y m
    show (if (0 ≤ y ∧ y < H.F) ∧ 0 ≤ m ∧ m < NM (H.fo y) then f (H.na y m) else 0) = if (0 ≤ y ∧ y < H.F) ∧ 0 ≤ m ∧ m < NM (H.fo y) then h (H.na y m) else 0
    by_cases a : (0 ≤ y ∧ y < H.F) ∧ 0 ≤ m ∧ m < NM (H.fo y)
    · rw [if_pos a, if_pos a]
      have r := k3 y m a.1.1 a.1.2 a.2.1 a.2.2
      exact e _ r.1 r.2
    · rw [if_neg a, if_neg a]
theorem RTS.ext3 {A B : RTS} (h1 : A.n = B.n) (h2 : A.V = B.V) (h3 : A.2.2 = B.2.2) : A = B := Prod.ext h1 (Prod.ext h2 h3)
theorem PSV.det {w r : Int} {Gs : Int → RTS} {PM NM : Int → Int} {H A B : RTS} {u v : Int} (k : RGK H NM) (h : PSV w r Gs PM NM H A u) (g : PSV w r Gs PM NM H B v) : A = B ∧ u = v := by
  rcases h with ⟨a, ⟨K, b⟩, c⟩ | ⟨a, b, c⟩ | ⟨a, b, c, d⟩ | ⟨a, b, c, d⟩ | ⟨a, t, b⟩ | ⟨a, nb, b, b1, b2, b3⟩ <;> rcases g with ⟨a', ⟨K', b'⟩, c'⟩ | ⟨a', b', c'⟩ | ⟨a', b', c', d'⟩ | ⟨a', b', c', d'⟩ | ⟨a', t', b'⟩ | ⟨a', nb', b', b1', b2', b3'⟩ <;> try omega
  · rw [b] at b'
    have z1 : A.n = B.n := congrArg (fun z : FOT => z.2.1) b'
    have z2 : u = v := congrArg (fun z : FOT => z.2.2.1) b'
    have z3 : A.V = B.V := congrArg (fun z : FOT => z.2.2.2) b'
    exact ⟨RTS.ext3 z1 z3 (c.trans c'.symm), z2⟩
  · obtain ⟨z1, z2, z3⟩ := b.det b'
    exact ⟨RTS.ext3 z2 z1 (c.trans c'.symm), z3⟩
  · obtain ⟨z1, z2⟩ := b.det b'
    exact ⟨RTS.ext3 (c.trans c'.symm) z1 (d.trans d'.symm), z2⟩
  · obtain ⟨z1, z2⟩ := b.det b'
    exact ⟨RTS.ext3 (c.trans c'.symm) z1 (d.trans d'.symm), z2⟩
  · exact b.end b'
  · have e : A = B := by rw [b2, b2']; exact sh_c (b.det b') k
    subst e
    exact ⟨rfl, b3.det b3'⟩
/-- and keeps the LABELS apart -/
theorem PSV.un {w r v C : Int} {Gs : Int → RTS} {PM NM : Int → Int} {H H' : RTS} (h : PSV w r Gs PM NM H H' v) (n0 : 0 ≤ H.n) (u : UNQ H.V H.n) (c : CLQ H.V H.n C) (hg : ∀ q, 0 ≤ q → q < C → 0 ≤ (Gs q).n ∧ UNQ (Gs q).V (Gs q).n ∧ LZ (Gs q).V (Gs q).n) : UNQ H'.V H'.n := by
  rcases h with ⟨a, ⟨K, b⟩, _⟩ | ⟨a, b, _⟩ | ⟨a, b, d, _⟩ | ⟨a, b, d, _⟩ | ⟨a, t, b⟩ | ⟨a, nb, b, b1, b2, b3⟩
  · have z := u.fold (n := H.n.toNat) (by omega)
    rw [b] at z
    exact z.2.1
  · exact u.drop n0 b
  · rw [d]; exact u.mva b (by omega)
  · rw [d]; exact u.als b
  · exact (b.un (Int.le_refl 0) u c hg).2.1
  · rw [b2]; exact u.sh
end
section
def UNA (σ : MS) : Prop := ∀ q, 0 ≤ q → q < σ.1 10 → UNQ (rV σ q) (σ.2.1 9 q)
theorem cl_rs {σ : MS} {r : Int} (g : GDR σ r) : CLQ (rS σ r).V (rS σ r).n (σ.1 10) := fun i a b c => by
  have b : i < σ.2.1 9 r := b
  rw [rs_V, rv_at a b] at c ⊢
  exact g.call ⟨a, b⟩ c
theorem lz_rs {σ : MS} {r : Int} (g : GDR σ r) : LZ (rS σ r).V (rS σ r).n := fun i a b c => by
  have b : i < σ.2.1 9 r := b
  rw [rs_V, rv_at a b] at c ⊢
  exact (g.2.2.1.jmp.lbr i a b c).1
theorem UNA.step {σ τ : MS} {w r v : Int} (h : PSQ σ τ w r v) (g : GDA σ) (e10 : τ.1 10 = σ.1 10) (u : UNA σ) : UNA τ := fun q q0 q1 => by
  rw [e10] at q1
  rcases h with ⟨_, _, h⟩ | ⟨hw, h1, h2⟩
  · have e := h q
    have z := u q q0 q1
    rw [show τ.2.1 9 q = σ.2.1 9 q from congrArg RTS.n e, show rV τ q = rV σ q from congrArg RTS.V e]
    exact z
  · by_cases e : q = r
    · subst e
      have gq := g.2 q q0 q1
      exact h1.un (C := σ.1 10) (by show 0 ≤ σ.2.1 9 q; have := gq.1; omega) (u q q0 q1) (cl_rs gq) (fun j a b => ⟨by show 0 ≤ σ.2.1 9 j; have := (g.2 j a b).1; omega, u j a b, lz_rs (g.2 j a b)⟩)
    · have e := h2 q q0 q1 e
      have z := u q q0 q1
      rw [show τ.2.1 9 q = σ.2.1 9 q from congrArg RTS.n e, show rV τ q = rV σ q from congrArg RTS.V e]
      exact z
end
section
/-- operands of an ITEM -/
def nAr (PM : Int → Int) (i : It) : Int := if i 0 = 10 then PM (i 2) else if i 0 = 12 then (if 10 ≤ i 11 then 0 else if 2 < i 11 then 2 else 1) else if 1 ≤ i 0 ∧ i 0 ≤ 5 then 2 else if i 0 = 0 ∨ i 0 = 6 ∨ i 0 = 7 ∨ i 0 = 9 then 1 else 0
section TLD
variable {σ : MS} {r k w v n : Int}
end TLD
end
section
/-- a code as both sides tell it -/
def nrm (i : It) : It := fun c => if c = 3 ∧ i 0 = 12 ∧ (i 11 = 1 ∨ i 11 = 2) then i 11 else if c = 12 then 0 else i c
def vW (W : Int → It) : Int → It := fun k => nrm (W k)
end
section
section NRM
variable {W : Int → It} {i : It} {k c : Int}
theorem nrm_ne (h : c ≠ 3) (h2 : c ≠ 12) : nrm i c = i c := by unfold nrm; rw [if_neg (fun q => h q.1), if_neg h2]
theorem vW_ne (h : c ≠ 3) (h2 : c ≠ 12) : vW W k c = W k c := nrm_ne h h2
theorem vW_0 : vW W k 0 = W k 0 := vW_ne (by decide) (by decide)
theorem vW_1 : vW W k 1 = W k 1 := vW_ne (by decide) (by decide)
theorem vW_put {i : It} : vW (uZ W k i) = uZ (vW W) k (nrm i) := by
  funext q
  by_cases e : q = k
  · rw [e, uZ_eq]; show nrm (uZ W k i k) = _; rw [uZ_eq]
  · rw [uZ_ne e]; show nrm (uZ W k i q) = _; rw [uZ_ne e]; rfl
end NRM
/-- an item stands well: kind, registers, operands beyond; of BIND of CONST, REG no operand stands in the cells -/
def iOK (i : It) : Prop := (0 ≤ i 0 ∧ i 0 ≤ 15) ∧ ((i 0 ≤ 5 ∨ i 0 = 10) → 0 ≤ i 1 ∧ i 1 < 192) ∧ (∀ j, 0 ≤ j → j < 4 → (0 ≤ i (3 + 2 * j) ∧ i (3 + 2 * j) ≤ 2) ∧ (i (3 + 2 * j) = 2 → 0 ≤ i (4 + 2 * j) ∧ i (4 + 2 * j) < 192)) ∧ (i 0 ≠ 10 → i 7 ≠ 2 ∧ i 9 ≠ 2) ∧ (i 0 = 12 → (i 11 = 1 ∨ i 11 = 2) → i 3 = 0 ∧ i 5 = 0 ∧ i 6 = 0 ∧ (i 11 = 2 → 0 ≤ i 4 ∧ i 4 < 192))
def WOK (W : Int → It) (n : Int) : Prop := ∀ k, 0 ≤ k → k < n → iOK (W k)
section WOKS
variable {W : Int → It} {n k : Int} {i : It}
theorem WOK.put (h : WOK W n) (hi : iOK i) : WOK (uZ W k i) n := fun q a b => by
  by_cases e : q = k
  · rw [e, uZ_eq]; exact hi
  · rw [uZ_ne e]; exact h q a b
/-- what an item reads -/
theorem rdI_iff {g : Int} : rdI i g ↔ (i 3 = 2 ∧ i 4 = g) ∨ (i 5 = 2 ∧ i 6 = g) ∨ (i 7 = 2 ∧ i 8 = g) ∨ (i 9 = 2 ∧ i 10 = g) := by
  constructor
  · rintro ⟨j, a, b, c, d⟩
    have : j = 0 ∨ j = 1 ∨ j = 2 ∨ j = 3 := by omega
    rcases this with rfl | rfl | rfl | rfl
    · exact Or.inl ⟨c, d⟩
    · exact Or.inr (Or.inl ⟨c, d⟩)
    · exact Or.inr (Or.inr (Or.inl ⟨c, d⟩))
    · exact Or.inr (Or.inr (Or.inr ⟨c, d⟩))
  · rintro (⟨c, d⟩ | ⟨c, d⟩ | ⟨c, d⟩ | ⟨c, d⟩)
    · exact ⟨0, by decide, by decide, c, d⟩
    · exact ⟨1, by decide, by decide, c, d⟩
    · exact ⟨2, by decide, by decide, c, d⟩
    · exact ⟨3, by decide, by decide, c, d⟩
end WOKS
section ALK
variable {W : Int → It} {n k i r : Int} {L L2 : Int → Int64}
end ALK
section ALK2
variable {W W2 V : Int → It} {n k j w v : Int}
end ALK2
end
section
section FAX
variable {K : KN} {i : It}
end FAX
/-- behind i of N items -/
def FI (V0 : Int → It) (N i k w : Int) (K : KN) (W : Int → It) (m : Int) : Prop := foS V0 i.toNat = (K, k, w, fun j => if 0 ≤ j ∧ j < k then vW W j else zI) ∧ m = k + (N - i) ∧ (0 ≤ k ∧ k ≤ i ∧ i ≤ N) ∧ (0 ≤ w ∧ w ≤ i) ∧ ∀ j, 0 ≤ j → j < N - i → vW W (k + j) = V0 (i + j)
section FIS
variable {V0 : Int → It} {N i k w w2 m : Int} {K K2 : KN} {W W2 W3 : Int → It} {t : It}
theorem FI.nil (h : V0 = vW W) (hN : 0 ≤ N) : FI V0 N 0 0 0 (fun _ => (0, 0)) W N := by
  refine ⟨?_, by omega, by omega, by omega, fun j a b => by rw [h, Int.zero_add]⟩
  show ((fun _ => (0, 0)), (0 : Int), (0 : Int), fun _ => zI) = _
  congr 3
  funext j
  rw [if_neg (by omega)]
theorem FI.at (h : FI V0 N i k w K W m) (hi : i < N) : V0 i = nrm (W k) := by
  have q := h.2.2.2.2 0 (by omega) (by omega)
  rw [Int.add_zero, Int.add_zero] at q
  exact q.symm
theorem FI.out (h : FI V0 N i k w K W m) (hi : i < N) (hT : foT (K, k, w, fun j => if 0 ≤ j ∧ j < k then vW W j else zI) (nrm (W k)) = (K2, k, w2, fun j => if 0 ≤ j ∧ j < k then vW W j else zI)) (hw : w2 = w ∨ w2 = w + 1) (e : W2 = uZ W k t) (e2 : W3 = toV W2 k) : FI V0 N (i + 1) k w2 K2 W3 (m - 1) := by
  have a := h.at hi
  obtain ⟨h1, h2, h3, h4, h5⟩ := h
  have v3 : ∀ j, vW W3 j = if j < k then vW W2 j else vW W2 (j + 1) := fun j => by
    show nrm (W3 j) = _
    rw [e2]
    unfold toV
    by_cases z : j < k
    · rw [if_pos z, if_pos z]; rfl
    · rw [if_neg z, if_neg z]; rfl
  have v2 : ∀ j, j ≠ k → vW W2 j = vW W j := fun j q => by rw [e, vW_put, uZ_ne q]
  refine ⟨?_, by omega, by omega, by omega, fun j x y => ?_⟩
  · rw [foS_s (by omega), h1, a, hT]
    congr 3
    funext j
    by_cases z : 0 ≤ j ∧ j < k
    · rw [if_pos z, if_pos z, v3, if_pos z.2, v2 j (by omega)]
    · rw [if_neg z, if_neg z]
  · rw [v3, if_neg (by omega), v2 _ (by omega), show k + j + 1 = k + (1 + j) by omega, show i + 1 + j = i + (1 + j) by omega]
    exact h5 (1 + j) (by omega) (by omega)
theorem FI.fin (h : FI V0 N i k w K W m) (hi : N ≤ i) (hW : ∀ j, ¬ (0 ≤ j ∧ j < m) → W j = fun _ => 0) : foS V0 N.toNat = (K, m, w, vW W) := by
  obtain ⟨h1, h2, h3, h4, h5⟩ := h
  have e : i = N := by omega
  have ek : k = m := by omega
  rw [← e, h1, ek]
  congr 3
  funext j
  by_cases z : 0 ≤ j ∧ j < m
  · rw [if_pos z]
  · rw [if_neg z]
    show zI = nrm (W j)
    rw [hW j z]
    funext c
    unfold nrm zI
    by_cases q : c = 12
    · rw [if_neg (fun w => absurd w.2.1 (by decide)), if_pos q]
    · rw [if_neg (fun w => absurd w.2.1 (by decide)), if_neg q]
end FIS
theorem WOK.rem {W : Int → It} {n k : Int} (h : WOK W n) (hk : 0 ≤ k) : WOK (toV W k) (n - 1) := fun j a b => by
  unfold toV
  by_cases z : j < k
  · rw [if_pos z]; exact h j a (by omega)
  · rw [if_neg z]; exact h (j + 1) (by omega) (by omega)
section FBK
variable {W W2 : Int → It} {Rk Rv : Int → Int} {k r v1 v2 N : Int}
end FBK
section LNS
variable {R1 Rv R R2 Rk : Int → Int} {r i : Int} {σ : MS} {x : Nat} {t : It}
end LNS
section FIW
variable {V0 : Int → It} {N i k w w2 m m2 v1 v2 vb v3 : Int} {K K2 : KN} {W W1 W2 W3 : Int → It}
end FIW
end
section
section HMS
variable {F r f m : Int} {Rn Rh : Int → Int}
end HMS
def LJQ (W : Int → It) (n p v : Int) : Prop := (v = -1 ∧ ∀ i, p < i → i < n → ¬ (W i 0 = 8 ∧ W i 1 = W p 1)) ∨ ((p < v ∧ v < n) ∧ (W v 0 = 8 ∧ W v 1 = W p 1) ∧ ∀ i, v < i → i < n → ¬ (W i 0 = 8 ∧ W i 1 = W p 1))
section MVS
variable {W W2 : Int → It} {n p q k f t r v u : Int} {L L2 : Int → Int64} {H : Int → Prop}
def FMQ (H : Int → Prop) (n : Int) (V : Int → It) (p q v : Int) : Prop := (v = -1 ∧ mvN H n V p q) ∨ (0 ≤ v ∧ mv1 H n V p q v)
theorem WOK.li (h : WOK W n) (hk : 0 ≤ p ∧ p ≤ k ∧ k < n) : WOK (liV W k p) n := fun i a b => by
  unfold liV
  by_cases e : i = p
  · rw [if_pos e]; exact h k (by omega) hk.2.2
  · rw [if_neg e]
    by_cases z : p < i ∧ i ≤ k
    · rw [if_pos z]; exact h (i - 1) (by omega) (by omega)
    · rw [if_neg z]; exact h i a b
theorem MVT.s {V V1 V2 : Int → It} {q p0 : Int} {t : Nat} (h : MVT H n q t V p0 V1 p) (g : mv1 H n V1 p q k) (e : V2 = liV V1 k p) : MVT H n q (t + 1) V p0 V2 (p + 1) := ⟨V1, p, k, h, g, e, rfl⟩
theorem LJ.of (h : LJQ W n p v) (hp : 0 ≤ p ∧ p < n) : LJ (vW W) n p (if v = -1 then p else v) := by
  unfold LJ
  simp only [vW_0, vW_1]
  rcases h with ⟨a, b⟩ | ⟨a, b, c⟩
  · rw [if_pos a]
    exact ⟨Int.le_refl _, hp.2, fun z => by omega, b⟩
  · have e : v ≠ -1 := by omega
    rw [if_neg e]
    exact ⟨by omega, a.2, fun _ => b, c⟩
/-- one LABEL -/
theorem MVO.of (hl : W p 0 = 13) (hp : 0 ≤ p ∧ p < n) (h : LJQ W n p v) {V2 : Int → It} {t : Nat} {p2 d : Int} (m : MVT H n v t (vW W) p V2 p2) (e : FMQ H n V2 p2 v (-1)) (hd : d = t) (h0 : v = -1 → t = 0) : MVO H n (vW W) p V2 d := by
  refine Or.inr ⟨by rw [vW_0]; exact hl, _, LJ.of h hp, ?_⟩
  by_cases z : v = -1
  · rw [if_pos z]
    have t0 := h0 z
    subst t0
    exact Or.inl ⟨rfl, m.1, by rw [hd]; rfl⟩
  · rw [if_neg z]
    refine Or.inr ⟨?_, t, p2, m, ?_, hd⟩
    · rcases h with ⟨a, b⟩ | ⟨a, b, c⟩
      · exact absurd a z
      · exact a.1
    · rcases e with e | e
      · exact e.2
      · exact absurd e.1 (by decide)
end MVS
end
section
def RLQ (W : Int → It) (n l v : Int) : Prop := (v = -1 ∧ ∀ j, 0 ≤ j → j < n → ¬ (W j 0 = 13 ∧ W j 1 = l)) ∨ ((0 ≤ v ∧ v < n) ∧ (W v 0 = 13 ∧ W v 1 = l) ∧ ∀ j, 0 ≤ j → j < v → ¬ (W j 0 = 13 ∧ W j 1 = l))
def LNK (W : Int → It) (n : Int) : Prop := ∀ k, 0 ≤ k → k < n → (W k 0 = 8 ∨ W k 0 = 9) → RLQ W n (W k 1) (W k 12)
def LKE (W W2 : Int → It) : Prop := ∀ k c, c ≠ 12 → W2 k c = W k c
section LKS
variable {W W2 W3 : Int → It} {n i k l v t t0 b g : Int}
theorem LKE.vw (h : LKE W W2) : vW W2 = vW W := by
  funext k c
  show nrm (W2 k) c = nrm (W k) c
  unfold nrm
  rw [h k 0 (by decide), h k 11 (by decide)]
  by_cases e : c = 12
  · rw [if_pos e, if_pos e]
  · rw [if_neg e, if_neg e, h k c e]
theorem iOK_c {i j : It} (h : ∀ c, c ≠ 12 → j c = i c) (hi : iOK i) : iOK j := by
  unfold iOK at hi ⊢
  rw [h 0 (by decide), h 1 (by decide), h 3 (by decide), h 4 (by decide), h 5 (by decide), h 6 (by decide), h 7 (by decide), h 9 (by decide), h 11 (by decide)]
  refine ⟨hi.1, hi.2.1, fun c a b => ?_, hi.2.2.2⟩
  rw [h (3 + 2 * c) (by omega), h (4 + 2 * c) (by omega)]
  exact hi.2.2.1 c a b
theorem LKE.wok (h : LKE W W2) (hw : WOK W n) : WOK W2 n := fun k a b => iOK_c (h k) (hw k a b)
end LKS
section SES
variable {V : Int → It} {n s w w2 i p k : Int} {B : Int → Prop} {S S2 Q Q2 : Int → Int}
end SES
end
section
section GBS
variable {L M M2 : Int → Int64} {b t k i : Int} {w : Int64}
end GBS
section RDS
variable {W : Int → It} {k c n : Int} {M0 M M2 : Int → Int64}
end RDS
section SWS
variable {L L2 L3 M : Int → Int64} {k i u : Int} {w : Int64}
end SWS
/-- marks have no operands -/
def MOK (W : Int → It) (n : Int) : Prop := ∀ k, 0 ≤ k → k < n → (W k 0 = 11 ∨ 13 ≤ W k 0) → W k 3 ≠ 2 ∧ W k 5 ≠ 2
section FLS2
variable {V : Int → It} {n k u v w : Int} {L0 L L2 : Int → Int64}
end FLS2
end
section
section RMS
variable {P Q : Int → Prop} {W W2 W3 : Int → It} {n m k w i j : Int}
end RMS
section TVS
variable {W Wc W2 : Int → It} {k b c v : Int} {x y : It}
end TVS
section LBS
variable {W Wc W2 : Int → It} {n k m i r v : Int} {S : Int → Int}
theorem MOK.rem (h : MOK W n) (hk : 0 ≤ k) : MOK (toV W k) (n - 1) := fun j a b => by
  unfold toV
  by_cases z : j < k
  · rw [if_pos z]; exact h j a (by omega)
  · rw [if_neg z]; exact h (j + 1) (by omega) (by omega)
theorem LKE.mok (h : LKE W W2) (hm : MOK W n) : MOK W2 n := fun j a b c => by
  rw [h j 0 (by decide)] at c
  rw [h j 3 (by decide), h j 5 (by decide)]
  exact hm j a b c
theorem vW_to : vW (toV W k) = toV (vW W) k := by
  funext i
  show nrm (toV W k i) = _
  unfold toV
  by_cases z : i < k
  · rw [if_pos z, if_pos z]; rfl
  · rw [if_neg z, if_neg z]; rfl
/-- all of DROP -/
def DRI (V1 : Int → It) (n1 : Int) (W : Int → It) (n t : Int) : Prop := 0 ≤ t ∧ DRT t.toNat V1 n1 (vW W) n ∧ WOK W n ∧ MOK W n ∧ LNK W n ∧ UNQ (vW W) n ∧ n = n1 - t
theorem DRI.step {V1 : Int → It} {n1 t : Int} {W1 W3 : Int → It} (h : DRI V1 n1 W n t) (l : lastD (vW W) n k) (e1 : vW W1 = rbV (vW W) n k) (w1 : WOK W1 n ∧ MOK W1 n) (e2 : W2 = toV W1 k) (e3 : LKE W2 W3) (e4 : LNK W3 (n - 1)) : DRI V1 n1 W3 (n - 1) (t + 1) := by
  obtain ⟨h0, h1, h2, h3, h4, h5, h6⟩ := h
  have v3 : vW W3 = toV (rbV (vW W) n k) k := by rw [e3.vw, e2, vW_to, e1]
  refine ⟨by omega, ?_, e3.wok (by rw [e2]; exact w1.1.rem l.1), e3.mok (by rw [e2]; exact w1.2.rem l.1), e4, by rw [v3]; exact h5.out, by omega⟩
  rw [show (t + 1).toNat = t.toNat + 1 by omega]
  exact ⟨vW W, n, k, h1, l, v3, rfl⟩
theorem DRX.of {V : Int → It} {n0 w0 w t n1 : Int} {V1 : Int → It} (h : DRI V1 n1 W n t) (e : dr1 V n0 n0.toNat = (n1, w0, V1)) (hl : ∀ k, 0 ≤ k → k < n → ¬ dead (vW W) n k) (hw : w = w0 + t) : DRX V n0 (vW W) n w := by
  refine ⟨t.toNat, ?_, fun k q => hl k q.1 q.2.1 q.2.2.1, ?_⟩
  · rw [e]; exact h.2.1
  · rw [e]; have := h.1; show w = w0 + ((t.toNat : Nat) : Int); omega
end LBS
end
section
/-- X; A of BIND of REG; the operands: as the class does it -/
def rn1 (nb : Int → Int) (i : It) : It := if i 0 ≤ 5 ∨ i 0 = 10 then uZ i 1 (nb (i 1)) else i
def rn2 (nb : Int → Int) (i : It) : It := if i 0 = 12 ∧ i 11 = 2 then uZ i 4 (nb (i 4)) else i
section RN3S
variable {W1 V V2 : Int → It} {nb : Int → Int} {k c y z : Int}
end RN3S
end
section
section BLDS
variable {F k a row row2 : Int} {W0 W W1 W2 : Int → It} {s : BB} {i t : It}
/-- the raw rows -/
def r3 (kd d o : Int) : It := uZ (uZ (uZ zI 0 kd) 1 d) 2 o
/-- RETURN has its operand alone -/
def rZ7 (i : It) : Prop := i 0 = 7 → i 2 = 0 ∧ i 5 = 0 ∧ i 6 = 0 ∧ i 7 = 0 ∧ i 8 = 0 ∧ i 9 = 0 ∧ i 10 = 0 ∧ i 11 = 0
end BLDS
end
section
theorem lnA.at {W : Int → It} {k j i : Int} (h : lnA (vW W) k j) (hk : W k 0 = 10) (a : j ≤ i) (b : i ≤ k) (c : W i 0 = 11) : i = j := by
  by_cases e : i = j
  · exact e
  · have z : i < k := by
      by_cases q : i = k
      · rw [q] at c; omega
      · omega
    have w := h.2.2.2 i (by omega) z
    rw [vW_0] at w
    omega
section HMRS
variable {R R2 R0 Gn Gh : Int → Int} {base fb i j y t : Int}
end HMRS
end
section
def RZA (V : Int → It) : Prop := ∀ i, rZ7 (V i)
theorem rz_n {i : It} (h : i 0 ≠ 7) : rZ7 i := fun q => absurd q h
theorem rz_z : rZ7 zI := rz_n (by show (0 : Int) ≠ 7; decide)
section RZS
variable {V V' O : Int → It} {n n' m k w : Int} {x : It}
theorem RZA.put (h : RZA V) (hx : rZ7 x) : RZA (uZ V k x) := fun i => by
  by_cases e : i = k
  · rw [e, uZ_eq]; exact hx
  · rw [uZ_ne e]; exact h i
theorem RZA.zero : RZA (fun _ => zI) := fun _ => rz_z
theorem rz_fo {K : KN} {i : It} (h : rZ7 i) : rZ7 (foZ (foA (foO K i 4))) := by
  have e0 : foO K i 4 0 = i 0 := if_neg (by omega)
  by_cases c : i 0 = 7
  · have z := h c
    have ea : foA (foO K i 4) = foO K i 4 := by unfold foA; rw [dI_n (fun q => by have := q.1; have := q.2.1; rw [e0] at *; omega)]
    have ez : foZ (foO K i 4) = foO K i 4 := by unfold foZ; rw [dI_n (fun q => by have := q.1; rw [e0] at *; omega)]
    rw [ea, ez]
    have ne : ∀ c, (c < 3 ∨ (5 ≤ c ∧ c ≤ 10) ∨ 11 ≤ c) → foO K i 4 c = i c := fun c hc => by
      unfold foO
      refine if_neg (fun q => ?_)
      have q3 := q.2.2.1
      have : c = 5 ∨ c = 6 ∨ c = 7 ∨ c = 8 ∨ c = 9 ∨ c = 10 := by omega
      rcases this with rfl | rfl | rfl | rfl | rfl | rfl
      · rw [show (3 : Int) + 2 * ((5 - 3) / 2) = 5 by decide] at q3; omega
      · rw [show (3 : Int) + 2 * ((6 - 3) / 2) = 5 by decide] at q3; omega
      · rw [show (3 : Int) + 2 * ((7 - 3) / 2) = 7 by decide] at q3; omega
      · rw [show (3 : Int) + 2 * ((8 - 3) / 2) = 7 by decide] at q3; omega
      · rw [show (3 : Int) + 2 * ((9 - 3) / 2) = 9 by decide] at q3; omega
      · rw [show (3 : Int) + 2 * ((10 - 3) / 2) = 9 by decide] at q3; omega
    intro _
    rw [ne 2 (by omega), ne 5 (by omega), ne 6 (by omega), ne 7 (by omega), ne 8 (by omega), ne 9 (by omega), ne 10 (by omega), ne 11 (by omega)]
    exact z
  · refine rz_n ?_
    have e1 : foA (foO K i 4) 0 ≠ 7 := by
      unfold foA
      by_cases a : five2 (foO K i 4)
      · rw [dI_y a]
        show uZ (uZ (uZ (uZ (uZ (foO K i 4) 0 0) 3 _) 4 _) 5 0) 6 0 0 ≠ 7
        rw [uZ_ne (by decide), uZ_ne (by decide), uZ_ne (by decide), uZ_ne (by decide), uZ_eq]
        decide
      · rw [dI_n a, e0]; exact c
    unfold foZ
    by_cases a : zer1 (foA (foO K i 4))
    · rw [dI_y a, uZ_ne (by decide), uZ_ne (by decide), uZ_eq]; decide
    · rw [dI_n a]; exact e1
theorem rz_b {K : KN} {i : It} (h : i 0 = 12) : rZ7 (foB K i) := rz_n (by
  unfold foB
  by_cases a : i 11 = 2 ∧ (K (i 4)).1 = 1
  · rw [dI_y a, uZ_ne (by decide), uZ_ne (by decide), uZ_ne (by decide), h]; decide
  · rw [dI_n a, h]; decide)
theorem RZA.fold (h : RZA V) (t : Nat) : RZA (foS V t).2.2.2 := by
  induction t with
  | zero => exact RZA.zero
  | succ t ih =>
    show RZA (foT (foS V t) (V t)).2.2.2
    unfold foT
    by_cases a : V t 0 = 13
    · rw [if_pos a]; exact ih.put (h t)
    · rw [if_neg a]
      by_cases b : V t 0 = 12
      · rw [if_pos b]; exact ih.put (rz_b b)
      · rw [if_neg b]
        by_cases c : V t 0 ≤ 10
        · rw [if_pos c]
          unfold foX
          by_cases z : zer1 (foA (foO (foS V t).1 (V t) 4)) ∧ foA (foO (foS V t).1 (V t) 4) 4 ≠ 0
          · show RZA (dI _ _ _); rw [dI_y z]; exact ih
          · show RZA (dI _ _ _); rw [dI_n z]; exact ih.put (rz_fo (h t))
        · rw [if_neg c]; exact ih.put (h t)
theorem RZA.to (h : RZA V) : RZA (toV V k) := fun i => by
  unfold toV
  split
  · exact h i
  · exact h (i + 1)
theorem RZA.rb (h : RZA V) : RZA (rbV V n k) := fun i => by
  unfold rbV
  by_cases a : nrV V n k i ∧ V i 0 = 12 ∧ V i 11 = 2 ∧ V i 4 = V k 1
  · rw [dI_y a]
    refine rz_n ?_
    have : tkI (V k) (V i) 0 = V i 0 := by
      unfold tkI
      split
      · rw [uZ_ne (by decide), uZ_ne (by decide), uZ_ne (by decide)]
      · rw [uZ_ne (by decide), uZ_ne (by decide), uZ_ne (by decide), uZ_ne (by decide), uZ_ne (by decide)]
    rw [this, a.2.1]; decide
  · rw [dI_n a]
    by_cases b : (0 ≤ i ∧ i < n) ∧ RCG V n (k + 1) (fun j => wrT (V j) (V k 1)) i ∧ V i 0 = 12 ∧ rdI (V i) (V k 1)
    · rw [dI_y b]
      refine rz_n ?_
      rw [show goI (V i) 12 0 = V i 0 from rfl, b.2.2.1]; decide
    · rw [dI_n b]; exact h i
theorem RZA.drr (h : RZA V) (t : Nat) : RZA (dr1 V n t).2.2 := by
  induction t with
  | zero => exact RZA.zero
  | succ t ih =>
    show RZA (dI (RCG V n 0 (fun _ => False) t) ((dr1 V n t).1 + 1, (dr1 V n t).2.1, uZ (dr1 V n t).2.2 (dr1 V n t).1 (V t)) ((dr1 V n t).1, (dr1 V n t).2.1 + (if V t 0 ≤ 10 then 1 else 0), (dr1 V n t).2.2)).2.2
    by_cases a : RCG V n 0 (fun _ => False) t
    · rw [dI_y a]; exact ih.put (h t)
    · rw [dI_n a]; exact ih
theorem RZA.drt {t : Nat} (h : RZA V) (g : DRT t V n V' n') : RZA V' := by
  induction t generalizing V' n' with
  | zero => rw [g.1]; exact h
  | succ t ih =>
    obtain ⟨V1, n1, k, h1, h2, h3, h4⟩ := g
    rw [h3]; exact (ih h1).rb.to
theorem RZA.li {p : Int} (h : RZA V) : RZA (liV V k p) := fun i => by
  unfold liV
  split
  · exact h k
  · split
    · exact h (i - 1)
    · exact h i
theorem RZA.mvt {H : Int → Prop} {q p a : Int} {t : Nat} (u : RZA V) (h : MVT H n q t V p V' a) : RZA V' := by
  induction t generalizing V' a with
  | zero => rw [h.1]; exact u
  | succ t ih =>
    obtain ⟨V1, p1, k, g1, g2, g3, g4⟩ := h
    rw [g3]; exact (ih g1).li
theorem RZA.mva {H : Int → Prop} {t : Nat} (u : RZA V) (h : MVA H n t V V' w) : RZA V' := by
  induction t generalizing V' w with
  | zero => rw [h.1]; exact u
  | succ t ih =>
    obtain ⟨V1, w1, d, h1, h2, h3⟩ := h
    have i := ih h1
    rcases h2 with ⟨a, b, c⟩ | ⟨a, q, b, ⟨c, d, e⟩ | ⟨c, t, p, d, e, f⟩⟩
    · rw [b]; exact i
    · rw [d]; exact i
    · exact i.mvt d
theorem RZA.als {t : Nat} (u : RZA V) (h : ALS t V V' w) : RZA V' := by
  induction t generalizing V' w with
  | zero => rw [h.1]; exact u
  | succ t ih =>
    obtain ⟨V1, w1, d, h1, h2, h3⟩ := h
    rcases h2 with ⟨j, a, b, c, e⟩ | ⟨a, b, c⟩
    · rw [c]
      refine (ih h1).put (rz_n ?_)
      show uZ (uZ (uZ (uZ (uZ (V1 t) 0 0) 3 _) 4 _) 5 0) 6 0 0 ≠ 7
      rw [uZ_ne (by decide), uZ_ne (by decide), uZ_ne (by decide), uZ_ne (by decide), uZ_eq]
      decide
    · rw [b]; exact ih h1
theorem rz_rn {nb : Int → Int} {i : It} (h : rZ7 i) : rZ7 (rnI nb i) := by
  have e0 : rnI nb i 0 = i 0 := by unfold rnI; rw [if_neg (by omega), if_neg (by omega)]
  intro q
  rw [e0] at q
  have z := h q
  have ne : ∀ c, c = 2 ∨ (5 ≤ c ∧ c ≤ 11) → rnI nb i c = i c := fun c hc => by
    unfold rnI
    rw [if_neg (by omega), if_neg (fun y => ?_)]
    have y2 := y.2
    have : c = 6 ∨ c = 8 ∨ c = 10 := by omega
    rcases this with rfl | rfl | rfl
    · rw [show (6 : Int) - 1 = 5 by decide] at y2; omega
    · rw [show (8 : Int) - 1 = 7 by decide] at y2; omega
    · rw [show (10 : Int) - 1 = 9 by decide] at y2; omega
  rw [ne 2 (by omega), ne 5 (by omega), ne 6 (by omega), ne 7 (by omega), ne 8 (by omega), ne 9 (by omega), ne 10 (by omega), ne 11 (by omega)]
  exact z
theorem RZA.sh {nb : Int → Int} {bg : Int → Prop} (u : RZA V) : RZA (shV V n nb bg) := fun i => by
  unfold shV
  by_cases a : 0 ≤ i ∧ i < n
  · rw [if_pos a]
    refine rz_rn ?_
    unfold ubV
    by_cases b : (0 ≤ i ∧ i < n) ∧ V i 0 = 12 ∧ RCG V n 0 (fun _ => False) i ∧ ∃ u, rdI (V i) u ∧ lsV V n nb bg i u
    · rw [dI_y b]
      refine rz_n ?_
      rw [show goI (V i) 13 0 = V i 0 from rfl, b.2.1]; decide
    · rw [dI_n b]; exact u i
  · rw [if_neg a]; exact rz_z
theorem rz_bA {s : BB} (h : RZA s.2) (hx : rZ7 x) : RZA (bA s x).2 := h.put hx
theorem rz_mk {a b c d e f : Int} (h : a ≠ 7) : rZ7 (mkI a b c d e f) := rz_n h
theorem rz_1 {f base P : Int} {na : Int → Int} {y : It} {s : BB} (h : RZA s.2) (t : Nat) : RZA (mb1 f base P na y s t).2 := by
  induction t with
  | zero => exact h
  | succ t ih =>
    show RZA (nmS f base P na y t (mb1 f base P na y s t)).2
    unfold nmS
    split
    · exact rz_bA (rz_bA ih (rz_mk (by decide))) (rz_mk (by decide))
    · exact rz_bA ih (rz_mk (by decide))
theorem rz_2 {base : Int} {lv : Int → Prop} {s : BB} (h : RZA s.2) (t : Nat) : RZA (mb2 base lv s t).2 := by
  induction t with
  | zero => exact h
  | succ t ih =>
    show RZA (dI (lv t) (bA (mb2 base lv s t) (mkI 0 (base + t) 0 1 0 0)) (mb2 base lv s t)).2
    by_cases a : lv t
    · rw [dI_y a]; exact rz_bA ih (rz_mk (by decide))
    · rw [dI_n a]; exact ih
theorem rz_3 {f base lb to out : Int} {s : BB} (h : RZA s.2) (t : Nat) : RZA (mb3 f base lb to out V s t).2 := by
  induction t with
  | zero => exact h
  | succ t ih =>
    show RZA (if V t 0 = 7 then bA (bA (mb3 f base lb to out V s t) (uZ (uZ (shO base (V t)) 0 0) 1 to)) (mkI 8 out 0 0 0 0) else bA (mb3 f base lb to out V s t) (mlI f base lb (V t))).2
    by_cases a : V t 0 = 7
    · rw [if_pos a]
      exact rz_bA (rz_bA ih (rz_n (by rw [uZ_ne (by decide), uZ_eq]; decide))) (rz_mk (by decide))
    · rw [if_neg a]
      exact rz_bA ih (rz_n (by rw [ml_0]; exact a))
theorem rz_m {f base lb out to P N nq : Int} {na : Int → Int} {y : It} {lv : Int → Prop} : RZA (mkB f base lb out to P N nq na y lv V).2 := rz_bA (rz_bA (rz_3 (rz_2 (rz_1 (rz_bA RZA.zero (rz_mk (by decide))) _) _) _) (rz_mk (by decide))) (rz_mk (by decide))
theorem RZA.sp {a : Int} {B : Int → It} (u : RZA V) (b : RZA B) : RZA (spV V k a B) := fun i => by
  unfold spV
  split
  · exact u i
  · split
    · exact b _
    · exact u _
end RZS
theorem RZA.mlr {r : Int} {Gs : Int → RTS} {PM NM : Int → Int} {t : Nat} {H H' : RTS} {k k' w : Int} (u : RZA H.V) (h : MLR r Gs PM NM t H k H' k' w) : RZA H'.V := by
  induction t generalizing H' k' w with
  | zero => rw [h.1]; exact u
  | succ t ih =>
    obtain ⟨H1, k1, w1, d, h1, h2, h3, h4⟩ := h
    have i := ih h1
    rcases h3 with ⟨base, lb, lq, j0, m, m1, m2, m3, m4, e1, e2, e3⟩ | ⟨m, e1, e2, e3⟩
    · rw [e1]; exact RZA.sp i rz_m
    · rw [e1]; exact i
end
section
def nwN (N g : Int) : Int := if 1000 ≤ g then g - 1000 + N else g
end
section
def MK.on (m x : MK) : MK := ((x.rt, m.ln, m.fs, m.lab, m.tmp), m.2.1, m.2.2.1, x.2.2.2)
def MK.li (m : MK) : MK := m.put (mkI 11 m.ln 0 0 0 0)
def MK.nl (m : MK) : MK := m.sL (m.lab + 1)
def MK.cp (m : MK) (r : Int) : MK := m.put (mkI 0 r 0 m.pk m.pv 0)
def MK.bd (m : MK) (r : Int) : MK := m.put (bndI r)
def MK.sg (m : MK) (k : Int) : MK := m.put (mkI k 0 0 m.pk m.pv 0)
def tb1 : Int → Int := fun _ => 1000
section MBDS
variable {m : MK} {i : It} {k e l r : Int}
end MBDS
section MGS
variable {Tg T T2 : CT} {g σ τ : MS} {a d n o x : Nat} {m q : MK} {v k p r i : Int} {it : It} {ks : List (Nat × Nat)} {rs : List Nat}
end MGS
section NMAS
variable {nm : Int → Int64 → Int} {r v : Int} {c c2 : CS} {w : Int64} {e : EW} {es fs : List EW} {P Q R : Prop}
end NMAS
/-- the class keeps a routine's key where its number comes later -/
noncomputable def rnQ (w : Int64) : Int := @dite Int (∃ k, KW k w) (Classical.propDecidable _) (fun h => Classical.choose h) (fun _ => 0)
section GWS
variable {S : Int → Int} {nm : Int → Int64 → Int} {rn : Int64 → Int} {tb : Int → Int} {ks ls ms l : List Nat} {j i k : Nat} {e b f d f2 d2 n n2 : Int} {u w w2 : UR} {m0 m1 m2 : MK} {F : MK → MK} {r : Int} {c c2 : CS}
end GWS
section FGX
variable {Tg T T2 : CT} {g σ τ : MS} {a d t : Nat} {k p r : Int}
end FGX
end
section
theorem cnts_0 {M : List NT} : ∀ {p : FP}, (cnts M p).1 = 0 → (∀ n, n ∈ M → n.2 ≠ 0) → p.1 = 0 := by
  induction M with
  | nil => exact fun h _ => h
  | cons n M ih =>
    intro p h g
    have z : (cntN n.2 n.1 p).1 = 0 := ih h (fun y hy => g y (List.mem_cons_of_mem _ hy))
    unfold cntN at z
    by_cases c : p.1 = 0 ∨ n.1 < p.2 ∨ (n.1 = p.2 ∧ n.2 < p.1)
    · rw [if_pos c] at z
      exact absurd z (g n (by simp))
    · rw [if_neg c] at z; exact z
section FOC
variable {c : CS} {e : EW} {es : List EW} {q : Int}
theorem fo_fp0 (h : (es.foldl uC c).fp.1 = 0) : c.fp.1 = 0 := by
  induction es generalizing c with
  | nil => exact h
  | cons e es ih =>
    have z : (uC c e).fp.1 = 0 := ih h
    exact cnts_0 (M := nC c e) z (fun n hn => by have := pos_C c e n hn; omega)
end FOC
end
section
section ROFS
variable {T : CT} {σ τ : MS} {a x : Nat} {k v w : Int} {c : CS}
/-- what routineOf answers of a word's key -/
def RFC (c : CS) (f : Int → Int) : Prop := ∀ k w, KW k w → (fndQ c w → (0 ≤ f k ∧ f k < c.rn) ∧ c.rk (f k) = w ∧ ∀ j, 0 ≤ j → j < f k → c.rk j ≠ w) ∧ (¬ fndQ c w → f k = -1)
end ROFS
section STLS
variable {T : CT} {E : Int → Nat} {f : Int → Int} {s0 σ τ : MS} {i k v y : Int} {a b x : Nat}
end STLS
section SQMS
variable {σ s0 s1 : MS} {a : Nat} {c : CS} {E : Int → Nat} {f : Int → Int} {i v : Int}
end SQMS
end
section
theorem ntg_stk {s : Int → Int} {k : Nat} {t : TK} {x : Int × Int × Int} {q : QR} {r : List Nat × TK × (Int × Int × Int) × QR × List EV} (hk : NTg k) (h : stk s k t x q = some r) : ∀ y ∈ r.1, NTg y := by
  unfold stk at h
  split at h
  all_goals (try (exact absurd hk (by decide)))
  all_goals (repeat' split at h)
  all_goals (cases h)
  all_goals exact ntg rfl
abbrev EBD (e : EW) : Prop := e.1 = 4 ∨ e.1 = 5 ∨ e.1 = 1 ∨ e.1 = 9
theorem ev_body {s : Int → Int} : ∀ (n : Nat) {K : List Nat} {t : TK} {x : Int × Int × Int} {q : QR} {ρ : List EV}, (∀ y ∈ K, NTg y) → ∀ e ∈ evs s n (K, t, x, q, ρ), EBD e
  | 0, _, _, _, _, _, _ => fun e h => absurd h (by show ¬ e ∈ ([] : List EW); simp)
  | n + 1, [], t, x, q, ρ, _ => by
    intro e h
    have z : evs s (n + 1) ([], t, x, q, ρ) = [] := evs_fix (stp_nil s t x q ρ) rfl (n + 1)
    rw [z] at h; exact absurd h (by simp)
  | n + 1, k :: K, t, x, q, ρ, hK => by
    intro e h
    have hk : NTg k := hK k (by simp)
    have h9 : k ≠ 999 := by rcases hk with z | z <;> omega
    have h2 : e ∈ evt s (k :: K, t, x, q, ρ) ++ evs s n (stp s (k :: K, t, x, q, ρ)) := h
    cases r : stk s k t x q with
    | none =>
      rw [stp_none r, evs_fix (stp_pF s) rfl n, List.append_nil, evt_n h9 r] at h2
      rw [List.mem_singleton.mp h2]; exact Or.inr (Or.inr (Or.inr rfl))
    | some r9 =>
      rw [stp_some r, evt_s h9 r] at h2
      rcases List.mem_append.mp h2 with w | w
      · rcases evk_body (t := t) (x := x) (q := q) hk with z | ⟨e9, z, z2⟩
        · rw [z] at w; exact absurd w (by simp)
        · rw [z] at w
          rw [List.mem_singleton.mp w]
          rcases z2 with ⟨z3 | z3, -⟩ | z3
          · exact Or.inl z3
          · exact Or.inr (Or.inl z3)
          · exact Or.inr (Or.inr (Or.inl z3))
      · exact ev_body n (fun y hy => (List.mem_append.mp hy).elim (ntg_stk hk r y) (fun w => hK y (List.mem_cons_of_mem _ w))) e w
theorem GR.bd {S : Int → Int} {i i3 : Nat} {m : Int} {es : List EW} (h : GR S [28] i 0 0 u0 [] i3 0 0 u0 m es) : ∀ e ∈ es, EBD e := by
  obtain ⟨t', l, -, w⟩ := h 0 0 0 (tkS S i) TEQ.rf
  obtain ⟨n, -, e⟩ := w [] []
  rw [← e]
  exact ev_body n (by intro y hy; rw [List.mem_singleton.mp hy]; exact Or.inl (by decide))
section FOB
variable {c : CS} {e : EW} {es : List EW} {q : Int}
end FOB
/-- the tellings up to each routine's end -/
def PFX (es : List EW) (Pf : Int → List EW) : Prop := ∀ q, 0 ≤ q → q < (es.foldl uC c00).rn → ((Pf q).foldl uC c00).rn = q + 1 ∧ ∃ p m w e2, es = Pf q ++ (0, p, m, w) :: e2
def MK.dn (m : MK) : Int → Int × (Int → It) := m.2.2.2.2.1
def MK.fr (m : MK) : Int → Int := m.2.2.2.2.2
section FRTS
variable {Sj : Nat → Prop} {E : Int → Nat} {T T0 T2 : CT} {σ σ0 τ s0 s1 : MS} {a c e x : Nat} {i j : Int} {m : MK}
end FRTS
section TLCS
variable {Sj : Nat → Prop} {E : Int → Nat} {nm : Int → Int64 → Int} {z0 mz mw : MK} {T T0 T3 : CT} {σ σ0 τ s0 s1 : MS} {a d n : Nat} {S : Int → Int} {i i2 i3 : Nat} {es e2 e3 : List EW} {N k m p ix : Int} {Pf : Int → List EW}
end TLCS
section FRTU
variable {Sj : Nat → Prop} {E : Int → Nat} {T T0 T2 : CT} {σ σ0 τ s0 s1 : MS} {a c e x : Nat} {i u v : Int} {m : MK} {q n fs N P : Int} {V : Int → It} {f : Int → Int}
end FRTU
end
section
def opN (N k v : Int) : Int := if k = 2 then nwN N v else v
def mpI (N : Int) (f : Int → Int) (i : It) : It := fun c => if c = 1 ∧ (i 0 ≤ 5 ∨ i 0 = 10) then nwN N (i 1) else if c = 2 ∧ i 0 = 10 then f (i 2) else if (c = 4 ∨ c = 6 ∨ c = 8 ∨ c = 10) ∧ i (c - 1) = 2 then nwN N (i c) else i c
section MPS
variable {N k d o ak a bk b w g c : Int} {f : Int → Int} {i : It} {as : List (Int × Int)}
theorem nw_lt (h : g < 1000) : nwN N g = g := by unfold nwN; rw [if_neg (by omega)]
theorem nw_ge (h : 0 ≤ g) : nwN N (1000 + g) = N + g := by unfold nwN; rw [if_pos (by omega)]; omega
theorem op_1 : opN N 1 g = g := by unfold opN; rw [if_neg (by decide)]
theorem op_lt (h : g < 1000) : opN N k g = g := by
  unfold opN
  by_cases e : k = 2
  · rw [if_pos e, nw_lt h]
  · rw [if_neg e]
theorem mp_o (h1 : c ≠ 1 ∨ ¬ (i 0 ≤ 5 ∨ i 0 = 10)) (h2 : c ≠ 2 ∨ i 0 ≠ 10) (h3 : ¬ (c = 4 ∨ c = 6 ∨ c = 8 ∨ c = 10)) : mpI N f i c = i c := by
  unfold mpI
  rw [if_neg (fun q => by rcases h1 with z | z; exact z q.1; exact z q.2), if_neg (fun q => by rcases h2 with z | z; exact z q.1; exact z q.2), if_neg (fun q => h3 q.1)]
theorem mp_a (h : c = 4 ∨ c = 6 ∨ c = 8 ∨ c = 10) : mpI N f i c = opN N (i (c - 1)) (i c) := by
  unfold mpI opN
  rw [if_neg (fun q => by omega), if_neg (fun q => by omega)]
  by_cases e : i (c - 1) = 2
  · rw [if_pos ⟨h, e⟩, if_pos e]
  · rw [if_neg (fun q => e q.2), if_neg e]
theorem mp_1 (h : i 0 ≤ 5 ∨ i 0 = 10) : mpI N f i 1 = nwN N (i 1) := by unfold mpI; rw [if_pos ⟨rfl, h⟩]
theorem mp_2 (h : i 0 = 10) : mpI N f i 2 = f (i 2) := by unfold mpI; rw [if_neg (by omega), if_pos ⟨rfl, h⟩]
theorem mp_mk (h5 : 5 < k) (h10 : k ≠ 10) : mpI N f (mkI k d o ak a w) = mkI k d o ak (opN N ak a) w := by
  have k0 : mkI k d o ak a w 0 = k := rfl
  funext c
  by_cases h : c = 4 ∨ c = 6 ∨ c = 8 ∨ c = 10
  · rw [mp_a h]
    rcases h with rfl | rfl | rfl | rfl
    · rfl
    · exact op_lt (show (0 : Int) < 1000 by decide)
    · exact op_lt (show (0 : Int) < 1000 by decide)
    · exact op_lt (show (0 : Int) < 1000 by decide)
  · rw [mp_o (Or.inr (by rw [k0]; omega)) (Or.inr (by rw [k0]; omega)) h]
    show mkI k d o ak a w c = mkI k d o ak (opN N ak a) w c
    unfold mkI
    rw [if_neg (show ¬ c = 4 by omega), if_neg (show ¬ c = 4 by omega)]
theorem mp_cp (hd : d < 1000) : mpI N f (mkI 0 d 0 ak a 0) = mkI 0 d 0 ak (opN N ak a) 0 := by
  have k0 : mkI 0 d 0 ak a 0 0 = 0 := rfl
  funext c
  by_cases h : c = 4 ∨ c = 6 ∨ c = 8 ∨ c = 10
  · rw [mp_a h]
    rcases h with rfl | rfl | rfl | rfl
    · rfl
    · exact op_lt (show (0 : Int) < 1000 by decide)
    · exact op_lt (show (0 : Int) < 1000 by decide)
    · exact op_lt (show (0 : Int) < 1000 by decide)
  · by_cases h1 : c = 1
    · subst h1
      rw [mp_1 (Or.inl (by rw [k0]; decide))]
      exact nw_lt hd
    · rw [mp_o (Or.inl h1) (Or.inr (by rw [k0]; decide)) h]
      show mkI 0 d 0 ak a 0 c = mkI 0 d 0 ak (opN N ak a) 0 c
      unfold mkI
      rw [if_neg (show ¬ c = 4 by omega), if_neg (show ¬ c = 4 by omega)]
theorem mp_it2 (hk : k ≤ 5) : mpI N f (it2 k d ak a bk b) = it2 k (nwN N d) ak (opN N ak a) bk (opN N bk b) := by
  have k0 : it2 k d ak a bk b 0 = k := rfl
  funext c
  by_cases h : c = 4 ∨ c = 6 ∨ c = 8 ∨ c = 10
  · rw [mp_a h]
    rcases h with rfl | rfl | rfl | rfl
    · rfl
    · rfl
    · exact op_lt (show (0 : Int) < 1000 by decide)
    · exact op_lt (show (0 : Int) < 1000 by decide)
  · by_cases h1 : c = 1
    · subst h1
      rw [mp_1 (Or.inl (by rw [k0]; exact hk))]
      rfl
    · rw [mp_o (Or.inl h1) (Or.inr (by rw [k0]; omega)) h]
      unfold it2
      rw [if_neg h1, if_neg h1, if_neg (show ¬ c = 4 by omega), if_neg (show ¬ c = 4 by omega), if_neg (show ¬ c = 6 by omega), if_neg (show ¬ c = 6 by omega)]
def mpA (N : Int) (as : List (Int × Int)) : List (Int × Int) := as.map (fun p => (p.1, opN N p.1 p.2))
theorem arg_mp (j : Nat) : argA (mpA N as) j = ((argA as j).1, opN N (argA as j).1 (argA as j).2) := by
  unfold argA mpA
  by_cases h : j < as.length
  · simp [List.getD_eq_getElem?_getD, List.getElem?_map, h]
  · have e1 : (as.map (fun p => (p.1, opN N p.1 p.2)))[j]? = none := by rw [List.getElem?_eq_none_iff]; simp; omega
    have e2 : as[j]? = none := by rw [List.getElem?_eq_none_iff]; omega
    simp only [List.getD_eq_getElem?_getD, e1, e2]
    show ((0 : Int), (0 : Int)) = (0, opN N 0 0)
    rw [op_lt (show (0 : Int) < 1000 by decide)]
theorem mp_itC (hd : d < 1000) : mpI N f (itC d o as) = itC d (f o) (mpA N as) := by
  have k0 : itC d o as 0 = 10 := rfl
  funext c
  by_cases h : c = 4 ∨ c = 6 ∨ c = 8 ∨ c = 10
  · rw [mp_a h]
    rcases h with rfl | rfl | rfl | rfl
    · show opN N (argA as 0).1 (argA as 0).2 = (argA (mpA N as) 0).2; rw [arg_mp]
    · show opN N (argA as 1).1 (argA as 1).2 = (argA (mpA N as) 1).2; rw [arg_mp]
    · show opN N (argA as 2).1 (argA as 2).2 = (argA (mpA N as) 2).2; rw [arg_mp]
    · show opN N (argA as 3).1 (argA as 3).2 = (argA (mpA N as) 3).2; rw [arg_mp]
  · by_cases h1 : c = 1
    · subst h1
      rw [mp_1 (Or.inr k0)]
      exact nw_lt hd
    · by_cases h2 : c = 2
      · subst h2
        rw [mp_2 k0]
        rfl
      · rw [mp_o (Or.inl h1) (Or.inl h2) h]
        unfold itC
        rw [arg_mp, arg_mp, arg_mp, arg_mp]
        rw [if_neg h1, if_neg h1, if_neg h2, if_neg h2, if_neg (show ¬ c = 4 by omega), if_neg (show ¬ c = 4 by omega), if_neg (show ¬ c = 6 by omega), if_neg (show ¬ c = 6 by omega), if_neg (show ¬ c = 8 by omega), if_neg (show ¬ c = 8 by omega), if_neg (show ¬ c = 10 by omega), if_neg (show ¬ c = 10 by omega)]
end MPS
def SRL (N : Int) (e e' : ME) : Prop := e'.1 = e.1 ∧ e'.2.1 = e.2.1 ∧ e'.2.2.1 = e.2.2.1 ∧ (e.1 = 0 → (e'.2.2.2.headD (0, 0)).1 = opN N e.2.2.1 (e.2.2.2.headD (0, 0)).1) ∧ (e.1 = 9 → e'.2.2.2 = mpA N e.2.2.2) ∧ (e.1 = 8 ∨ e.1 = 9 → e.2.1 < 1000)
def SLR (N : Int) : List ME → List ME → Prop
  | [], [] => True
  | e :: S, e' :: S' => SRL N e e' ∧ SLR N S S'
  | _, _ => False
def BDY (N : Int) (f : Int → Int) (m m' : MK) : Prop := (m'.1 = m.1 ∧ m'.n = m.n ∧ 0 ≤ m.n ∧ 0 ≤ m.tmp) ∧ (∀ k, 0 ≤ k → k < m.n → m'.V k = mpI N f (m.V k) ∧ (m.V k 0 = 12 → m.V k 4 < 1000)) ∧ SLR N m.S m'.S
def PRL (N : Int) (m m' : MK) : Prop := m'.pk = m.pk ∧ m'.pv = opN N m.pk m.pv
def DNX (Nf : Int → Int) (f : Int → Int) (m m' : MK) : Prop := m'.fr = m.fr ∧ ∀ q, (m'.dn q).1 = (m.dn q).1 ∧ ∀ k, 0 ≤ k → k < (m.dn q).1 → (m'.dn q).2 k = mpI (Nf q) f ((m.dn q).2 k) ∧ ((m.dn q).2 k 0 = 12 → (m.dn q).2 k 4 < 1000)
section BDYS
variable {N : Int} {f : Int → Int} {m m' : MK} {i i' : It} {e e' : ME} {S S' : List ME} {l g : Int}
theorem SLR.cons (h : SLR N (e :: S) S') : ∃ e' S'', S' = e' :: S'' ∧ SRL N e e' ∧ SLR N S S'' := by
  cases S' with
  | nil => exact absurd h (fun q => q)
  | cons e' S'' => exact ⟨e', S'', rfl, h⟩
theorem SLR.nil (h : SLR N [] S') : S' = [] := by
  cases S' with
  | nil => rfl
  | cons e' S'' => exact absurd h (fun q => q)
theorem srl_id (h0 : e.1 ≠ 0) (h8 : e.1 ≠ 8) (h9 : e.1 ≠ 9) : SRL N e e := ⟨rfl, rfl, rfl, fun q => absurd q h0, fun q => absurd q h9, fun q => by omega⟩
theorem BDY.put (h : BDY N f m m') (e : i' = mpI N f i) (h4 : i 0 = 12 → i 4 < 1000) : BDY N f (m.put i) (m'.put i') := by
  obtain ⟨⟨h1, h2, h3, h5⟩, h6, h7⟩ := h
  refine ⟨⟨h1, show m'.n + 1 = m.n + 1 by omega, show 0 ≤ m.n + 1 by omega, h5⟩, fun k k0 k1 => ?_, h7⟩
  have k1' : k < m.n + 1 := k1
  show uZ m'.V m'.n i' k = mpI N f (uZ m.V m.n i k) ∧ (uZ m.V m.n i k 0 = 12 → uZ m.V m.n i k 4 < 1000)
  by_cases z : k = m.n
  · rw [h2, z, uZ_eq, uZ_eq]; exact ⟨e, h4⟩
  · rw [h2, uZ_ne z, uZ_ne z]; exact h6 k k0 (by omega)
theorem BDY.sS (h : BDY N f m m') (q : SLR N S S') : BDY N f (m.sS S) (m'.sS S') := ⟨h.1, h.2.1, q⟩
theorem BDY.psh (h : BDY N f m m') (q : SRL N e e') : BDY N f (m.push e) (m'.push e') := ⟨h.1, h.2.1, q, h.2.2⟩
theorem BDY.sP {a b c d : Int} (h : BDY N f m m') : BDY N f (m.sP a b) (m'.sP c d) := h
theorem BDY.sL (h : BDY N f m m') : BDY N f (m.sL l) (m'.sL l) := by
  obtain ⟨⟨h1, h2⟩, h3⟩ := h
  refine ⟨⟨?_, h2⟩, h3⟩
  show (m'.rt, m'.ln, m'.fs, l, m'.tmp) = (m.rt, m.ln, m.fs, l, m.tmp)
  unfold MK.rt MK.ln MK.fs MK.tmp
  rw [h1]
theorem BDY.sT (h : BDY N f m m') (hl : 0 ≤ l) : BDY N f (m.sT l) (m'.sT l) := by
  obtain ⟨⟨h1, h2, h3, -⟩, h4⟩ := h
  refine ⟨⟨?_, h2, h3, hl⟩, h4⟩
  show (m'.rt, m'.ln, m'.fs, m'.lab, l) = (m.rt, m.ln, m.fs, m.lab, l)
  unfold MK.rt MK.ln MK.fs MK.lab
  rw [h1]
theorem BDY.stm (h : BDY N f m m') : BDY N f m.stm m'.stm := by
  obtain ⟨⟨h1, h2⟩, h3⟩ := h
  refine ⟨⟨?_, h2⟩, h3⟩
  show (m'.rt, m'.ln + 1, (if m'.fs = 0 then m'.ln + 1 else m'.fs), m'.lab, m'.tmp) = (m.rt, m.ln + 1, (if m.fs = 0 then m.ln + 1 else m.fs), m.lab, m.tmp)
  unfold MK.rt MK.ln MK.fs MK.lab MK.tmp
  rw [h1]
theorem BDY.ln (h : BDY N f m m') : m'.ln = m.ln := by unfold MK.ln; rw [h.1.1]
theorem BDY.lab (h : BDY N f m m') : m'.lab = m.lab := by unfold MK.lab; rw [h.1.1]
theorem BDY.tmp (h : BDY N f m m') : m'.tmp = m.tmp := by unfold MK.tmp; rw [h.1.1]
theorem BDY.rt (h : BDY N f m m') : m'.rt = m.rt := by unfold MK.rt; rw [h.1.1]
/-- plain marks -/
theorem BDY.mk (h : BDY N f m m') {k d : Int} (h5 : 5 < k) (h10 : k ≠ 10) (h12 : k ≠ 12) : BDY N f (m.put (mkI k d 0 0 0 0)) (m'.put (mkI k d 0 0 0 0)) := h.put (by rw [mp_mk h5 h10, op_lt (show (0 : Int) < 1000 by decide)]) (fun q => absurd (show k = 12 from q) h12)
theorem BDY.pt (h : BDY N f m m') (p : PRL N m m') {k d : Int} (h5 : 5 < k) (h10 : k ≠ 10) (h12 : k ≠ 12) : BDY N f (m.put (mkI k d 0 m.pk m.pv 0)) (m'.put (mkI k d 0 m'.pk m'.pv 0)) := h.put (by rw [mp_mk h5 h10, p.1, p.2]) (fun q => absurd (show k = 12 from q) h12)
theorem BDY.bd (h : BDY N f m m') (hg : g < 1000) : BDY N f (m.put (bndI g)) (m'.put (bndI g)) := h.put (by unfold bndI; rw [mp_mk (by decide) (by decide), op_lt hg]) (fun _ => hg)
theorem BDY.cp (h : BDY N f m m') (p : PRL N m m') (hg : g < 1000) : BDY N f (m.put (mkI 0 g 0 m.pk m.pv 0)) (m'.put (mkI 0 g 0 m'.pk m'.pv 0)) := h.put (by rw [mp_cp hg, p.1, p.2]) (fun q => absurd (show (0 : Int) = 12 from q) (by decide))
theorem BDY.one {tb : Int → Int} (h : BDY N f m m') (e1 : tb m.rt = N) (D : PRL N m m' ∨ ∃ e S, m.S = e :: S ∧ (e.1 = 1 ∨ e.1 = 11)) : BDY N f (m.one tb1) (m'.one tb) ∧ ((PRL N m m' ∨ PRL N (m.one tb1) (m'.one tb)) → PRL N (m.one tb1) (m'.one tb)) ∧ (∀ e S, m.S = e :: S → (e.1 = 1 ∨ e.1 = 11) → (m.one tb1).S = S) := by
  obtain ⟨h1, h2, h3⟩ := h
  have hB : BDY N f m m' := ⟨h1, h2, h3⟩
  cases hs : m.S with
  | nil =>
    rw [hs] at h3
    have hs' := h3.nil
    have o1 : m.one tb1 = m := by unfold MK.one; rw [hs]
    have o2 : m'.one tb = m' := by unfold MK.one; rw [hs']
    rw [o1, o2]
    exact ⟨hB, fun q => q.elim id id, fun e S q => absurd q (by simp)⟩
  | cons e S =>
    rw [hs] at h3
    obtain ⟨e', S', hs', hr, hl⟩ := h3.cons
    obtain ⟨r1, r2, r3, r4, r5, r6⟩ := hr
    have D' : PRL N m m' ∨ (e.1 = 1 ∨ e.1 = 11) := D.imp id (fun ⟨e9, S9, z1, z2⟩ => by rw [hs] at z1; obtain ⟨z3, z4⟩ := List.cons.inj z1; rw [z3]; exact z2)
    by_cases c0 : e.1 = 0
    · have p : PRL N m m' := D'.elim id (fun q => by omega)
      have o1 : m.one tb1 = (((m.put (it2 (if e.2.1 < 6 then e.2.1 else 5) (1000 + m.tmp) e.2.2.1 ((e.2.2.2.headD (0, 0)).1) m.pk m.pv)).sS S).sP 2 (1000 + m.tmp)).sT (m.tmp + 1) := by unfold MK.one; rw [hs]; exact if_pos c0
      have o2 : m'.one tb = (((m'.put (it2 (if e.2.1 < 6 then e.2.1 else 5) (N + m.tmp) e.2.2.1 (opN N e.2.2.1 (e.2.2.2.headD (0, 0)).1) m'.pk m'.pv)).sS S').sP 2 (N + m.tmp)).sT (m.tmp + 1) := by
        unfold MK.one; rw [hs']
        show (if e'.1 = 0 then (((m'.put (it2 (if e'.2.1 < 6 then e'.2.1 else 5) (tb m'.rt + m'.tmp) e'.2.2.1 ((e'.2.2.2.headD (0, 0)).1) m'.pk m'.pv)).sS S').sP 2 (tb m'.rt + m'.tmp)).sT (m'.tmp + 1) else _) = _
        rw [if_pos (by rw [r1]; exact c0), r2, r3, r4 c0, hB.tmp, hB.rt, e1]
      rw [o1, o2]
      have t0 := h1.2.2.2
      refine ⟨?_, fun _ => ⟨rfl, ?_⟩, fun e9 S9 q z => ?_⟩
      · refine BDY.sT (BDY.sP (BDY.sS (hB.put ?_ (fun q => ?_)) hl)) (by omega)
        · rw [mp_it2 (by split <;> omega), nw_ge t0, p.1, p.2]
        · have q2 : (if e.2.1 < 6 then e.2.1 else 5) = 12 := q
          split at q2 <;> omega
      · show N + m.tmp = opN N 2 (1000 + m.tmp)
        unfold opN; rw [if_pos rfl, nw_ge t0]
      · obtain ⟨z3, -⟩ := List.cons.inj q; rw [← z3] at z; omega
    · have c0' : ¬ e'.1 = 0 := by rw [r1]; exact c0
      by_cases c1 : e.1 = 1
      · have o1 : m.one tb1 = (m.put (mkI 11 m.ln 0 0 0 0)).sS S := by unfold MK.one; rw [hs]; exact (if_neg c0).trans (if_pos c1)
        have o2 : m'.one tb = (m'.put (mkI 11 m.ln 0 0 0 0)).sS S' := by unfold MK.one; rw [hs', ← hB.ln]; exact (if_neg c0').trans (if_pos (by rw [r1]; exact c1))
        rw [o1, o2]
        exact ⟨(hB.mk (by decide) (by decide) (by decide)).sS hl, fun q => q.elim id id, fun e9 S9 q _ => (List.cons.inj q).2⟩
      · have c1' : ¬ e'.1 = 1 := by rw [r1]; exact c1
        by_cases c2 : e.1 = 2
        · have p : PRL N m m' := D'.elim id (fun q => by omega)
          have o1 : m.one tb1 = ((m.put (mkI 9 m.lab 0 m.pk m.pv 0)).sS ((3, m.lab, 0, []) :: S)).sL (m.lab + 1) := by unfold MK.one; rw [hs]; exact ((if_neg c0).trans (if_neg c1)).trans (if_pos c2)
          have o2 : m'.one tb = ((m'.put (mkI 9 m.lab 0 m'.pk m'.pv 0)).sS ((3, m.lab, 0, []) :: S')).sL (m.lab + 1) := by unfold MK.one; rw [hs', ← hB.lab]; exact ((if_neg c0').trans (if_neg c1')).trans (if_pos (by rw [r1]; exact c2))
          rw [o1, o2]
          exact ⟨BDY.sL ((hB.pt p (by decide) (by decide) (by decide)).sS ⟨srl_id (show (3 : Int) ≠ 0 by decide) (show (3 : Int) ≠ 8 by decide) (show (3 : Int) ≠ 9 by decide), hl⟩), fun _ => p, fun e9 S9 q z => by obtain ⟨z3, -⟩ := List.cons.inj q; rw [← z3] at z; omega⟩
        · have c2' : ¬ e'.1 = 2 := by rw [r1]; exact c2
          by_cases c3 : e.1 = 3
          · have o1 : m.one tb1 = (m.put (mkI 13 e.2.1 0 0 0 0)).sS S := by unfold MK.one; rw [hs]; exact (((if_neg c0).trans (if_neg c1)).trans (if_neg c2)).trans (if_pos c3)
            have o2 : m'.one tb = (m'.put (mkI 13 e.2.1 0 0 0 0)).sS S' := by unfold MK.one; rw [hs', ← r2]; exact (((if_neg c0').trans (if_neg c1')).trans (if_neg c2')).trans (if_pos (by rw [r1]; exact c3))
            rw [o1, o2]
            exact ⟨(hB.mk (by decide) (by decide) (by decide)).sS hl, fun q => q.elim id id, fun e9 S9 q z => by obtain ⟨z3, -⟩ := List.cons.inj q; rw [← z3] at z; omega⟩
          · have c3' : ¬ e'.1 = 3 := by rw [r1]; exact c3
            by_cases c6 : e.1 = 6
            · have p : PRL N m m' := D'.elim id (fun q => by omega)
              have o1 : m.one tb1 = ((m.put (mkI 9 m.lab 0 m.pk m.pv 0)).sS ((7, e.2.1, m.lab, []) :: S)).sL (m.lab + 1) := by unfold MK.one; rw [hs]; exact ((((if_neg c0).trans (if_neg c1)).trans (if_neg c2)).trans (if_neg c3)).trans (if_pos c6)
              have o2 : m'.one tb = ((m'.put (mkI 9 m.lab 0 m'.pk m'.pv 0)).sS ((7, e.2.1, m.lab, []) :: S')).sL (m.lab + 1) := by unfold MK.one; rw [hs', ← hB.lab, ← r2]; exact ((((if_neg c0').trans (if_neg c1')).trans (if_neg c2')).trans (if_neg c3')).trans (if_pos (by rw [r1]; exact c6))
              rw [o1, o2]
              exact ⟨BDY.sL ((hB.pt p (by decide) (by decide) (by decide)).sS ⟨srl_id (show (7 : Int) ≠ 0 by decide) (show (7 : Int) ≠ 8 by decide) (show (7 : Int) ≠ 9 by decide), hl⟩), fun _ => p, fun e9 S9 q z => by obtain ⟨z3, -⟩ := List.cons.inj q; rw [← z3] at z; omega⟩
            · have c6' : ¬ e'.1 = 6 := by rw [r1]; exact c6
              by_cases c10 : e.1 = 10
              · have p : PRL N m m' := D'.elim id (fun q => by omega)
                have o1 : m.one tb1 = (m.put (mkI (if e.2.1 = 6 then 6 else 7) 0 0 m.pk m.pv 0)).sS S := by unfold MK.one; rw [hs]; exact (((((if_neg c0).trans (if_neg c1)).trans (if_neg c2)).trans (if_neg c3)).trans (if_neg c6)).trans (if_pos c10)
                have o2 : m'.one tb = (m'.put (mkI (if e.2.1 = 6 then 6 else 7) 0 0 m'.pk m'.pv 0)).sS S' := by unfold MK.one; rw [hs', ← r2]; exact (((((if_neg c0').trans (if_neg c1')).trans (if_neg c2')).trans (if_neg c3')).trans (if_neg c6')).trans (if_pos (by rw [r1]; exact c10))
                rw [o1, o2]
                exact ⟨(hB.pt p (by split <;> decide) (by split <;> decide) (by split <;> decide)).sS hl, fun _ => p, fun e9 S9 q z => by obtain ⟨z3, -⟩ := List.cons.inj q; rw [← z3] at z; omega⟩
              · have c10' : ¬ e'.1 = 10 := by rw [r1]; exact c10
                by_cases c11 : e.1 = 11
                · have o1 : m.one tb1 = (m.put (mkI 7 0 0 1 0 0)).sS S := by unfold MK.one; rw [hs]; exact ((((((if_neg c0).trans (if_neg c1)).trans (if_neg c2)).trans (if_neg c3)).trans (if_neg c6)).trans (if_neg c10)).trans (if_pos c11)
                  have o2 : m'.one tb = (m'.put (mkI 7 0 0 1 0 0)).sS S' := by unfold MK.one; rw [hs']; exact ((((((if_neg c0').trans (if_neg c1')).trans (if_neg c2')).trans (if_neg c3')).trans (if_neg c6')).trans (if_neg c10')).trans (if_pos (by rw [r1]; exact c11))
                  rw [o1, o2]
                  exact ⟨(hB.put (by rw [mp_mk (by decide) (by decide), op_1]) (fun q => absurd (show (7 : Int) = 12 from q) (by decide))).sS hl, fun q => q.elim id id, fun e9 S9 q _ => (List.cons.inj q).2⟩
                · have c11' : ¬ e'.1 = 11 := by rw [r1]; exact c11
                  have o1 : m.one tb1 = m := by unfold MK.one; rw [hs]; exact ((((((if_neg c0).trans (if_neg c1)).trans (if_neg c2)).trans (if_neg c3)).trans (if_neg c6)).trans (if_neg c10)).trans (if_neg c11)
                  have o2 : m'.one tb = m' := by unfold MK.one; rw [hs']; exact ((((((if_neg c0').trans (if_neg c1')).trans (if_neg c2')).trans (if_neg c3')).trans (if_neg c6')).trans (if_neg c10')).trans (if_neg c11')
                  rw [o1, o2]
                  exact ⟨hB, fun q => q.elim id id, fun e9 S9 q z => by obtain ⟨z3, -⟩ := List.cons.inj q; rw [← z3] at z; omega⟩
theorem BDY.two (h : BDY N f m m') (D : PRL N m m' ∨ ∃ e S, m.S = e :: S ∧ e.1 = 5) : BDY N f m.two m'.two := by
  obtain ⟨h1, h2, h3⟩ := h
  have hB : BDY N f m m' := ⟨h1, h2, h3⟩
  cases hs : m.S with
  | nil =>
    rw [hs] at h3
    have hs' := h3.nil
    have o1 : m.two = m := by unfold MK.two; rw [hs]
    have o2 : m'.two = m' := by unfold MK.two; rw [hs']
    rw [o1, o2]; exact hB
  | cons e S =>
    rw [hs] at h3
    obtain ⟨e', S', hs', hr, hl⟩ := h3.cons
    obtain ⟨r1, r2, r3, r4, r5, r6⟩ := hr
    have D' : PRL N m m' ∨ e.1 = 5 := D.imp id (fun ⟨e9, S9, z1, z2⟩ => by rw [hs] at z1; obtain ⟨z3, z4⟩ := List.cons.inj z1; rw [z3]; exact z2)
    by_cases c8 : e.1 = 8
    · have p : PRL N m m' := D'.elim id (fun q => by omega)
      have g8 := r6 (Or.inl c8)
      have o1 : m.two = ((m.put (mkI 0 e.2.1 0 m.pk m.pv 0)).put (bndI e.2.1)).sS S := by unfold MK.two; rw [hs]; exact if_pos c8
      have o2 : m'.two = ((m'.put (mkI 0 e.2.1 0 m'.pk m'.pv 0)).put (bndI e.2.1)).sS S' := by unfold MK.two; rw [hs', ← r2]; exact if_pos (by rw [r1]; exact c8)
      rw [o1, o2]
      exact ((hB.cp p g8).bd g8).sS hl
    · have c8' : ¬ e'.1 = 8 := by rw [r1]; exact c8
      by_cases c5 : e.1 = 5
      · have o1 : m.two = (((m.put (mkI 13 m.lab 0 0 0 0)).put (mkI 11 m.ln 0 0 0 0)).sS ((6, m.lab, 0, []) :: S)).sL (m.lab + 1) := by unfold MK.two; rw [hs]; exact (if_neg c8).trans (if_pos c5)
        have o2 : m'.two = (((m'.put (mkI 13 m.lab 0 0 0 0)).put (mkI 11 m.ln 0 0 0 0)).sS ((6, m.lab, 0, []) :: S')).sL (m.lab + 1) := by unfold MK.two; rw [hs', ← hB.lab, ← hB.ln]; exact (if_neg c8').trans (if_pos (by rw [r1]; exact c5))
        rw [o1, o2]
        exact BDY.sL (((hB.mk (by decide) (by decide) (by decide)).mk (by decide) (by decide) (by decide)).sS ⟨srl_id (show (6 : Int) ≠ 0 by decide) (show (6 : Int) ≠ 8 by decide) (show (6 : Int) ≠ 9 by decide), hl⟩)
      · have c5' : ¬ e'.1 = 5 := by rw [r1]; exact c5
        by_cases c4 : e.1 = 4
        · have o1 : m.two = (((m.put (mkI 8 m.lab 0 0 0 0)).put (mkI 13 e.2.1 0 0 0 0)).sS ((3, m.lab, 0, []) :: S)).sL (m.lab + 1) := by unfold MK.two; rw [hs]; exact ((if_neg c8).trans (if_neg c5)).trans (if_pos c4)
          have o2 : m'.two = (((m'.put (mkI 8 m.lab 0 0 0 0)).put (mkI 13 e.2.1 0 0 0 0)).sS ((3, m.lab, 0, []) :: S')).sL (m.lab + 1) := by unfold MK.two; rw [hs', ← hB.lab, ← r2]; exact ((if_neg c8').trans (if_neg c5')).trans (if_pos (by rw [r1]; exact c4))
          rw [o1, o2]
          exact BDY.sL (((hB.mk (by decide) (by decide) (by decide)).mk (by decide) (by decide) (by decide)).sS ⟨srl_id (show (3 : Int) ≠ 0 by decide) (show (3 : Int) ≠ 8 by decide) (show (3 : Int) ≠ 9 by decide), hl⟩)
        · have c4' : ¬ e'.1 = 4 := by rw [r1]; exact c4
          by_cases c7 : e.1 = 7
          · have o1 : m.two = ((m.put (mkI 8 e.2.1 0 0 0 0)).put (mkI 13 e.2.2.1 0 0 0 0)).sS S := by unfold MK.two; rw [hs]; exact (((if_neg c8).trans (if_neg c5)).trans (if_neg c4)).trans (if_pos c7)
            have o2 : m'.two = ((m'.put (mkI 8 e.2.1 0 0 0 0)).put (mkI 13 e.2.2.1 0 0 0 0)).sS S' := by unfold MK.two; rw [hs', ← r2, ← r3]; exact (((if_neg c8').trans (if_neg c5')).trans (if_neg c4')).trans (if_pos (by rw [r1]; exact c7))
            rw [o1, o2]
            exact ((hB.mk (by decide) (by decide) (by decide)).mk (by decide) (by decide) (by decide)).sS hl
          · have c7' : ¬ e'.1 = 7 := by rw [r1]; exact c7
            have o1 : m.two = m := by unfold MK.two; rw [hs]; exact (((if_neg c8).trans (if_neg c5)).trans (if_neg c4)).trans (if_neg c7)
            have o2 : m'.two = m' := by unfold MK.two; rw [hs']; exact (((if_neg c8').trans (if_neg c5')).trans (if_neg c4')).trans (if_neg c7')
            rw [o1, o2]; exact hB
theorem BDY.cal {rn : Int64 → Int} {w : Int64} (h : BDY N f m m') : BDY N f (m.cal rn w) (m'.cal (fun w => f (rn w)) w) := by
  obtain ⟨h1, h2, h3⟩ := h
  have hB : BDY N f m m' := ⟨h1, h2, h3⟩
  cases hs : m.S with
  | nil =>
    rw [hs] at h3
    have hs' := h3.nil
    have o1 : m.cal rn w = m := by unfold MK.cal; rw [hs]
    have o2 : m'.cal (fun w => f (rn w)) w = m' := by unfold MK.cal; rw [hs']
    rw [o1, o2]; exact hB
  | cons e S =>
    rw [hs] at h3
    obtain ⟨e', S', hs', hr, hl⟩ := h3.cons
    obtain ⟨r1, r2, r3, r4, r5, r6⟩ := hr
    by_cases c9 : e.1 = 9
    · have g9 := r6 (Or.inr c9)
      have o1 : m.cal rn w = ((m.put (itC e.2.1 (rn w) e.2.2.2)).put (bndI e.2.1)).sS S := by unfold MK.cal; rw [hs]; exact if_pos c9
      have o2 : m'.cal (fun w => f (rn w)) w = ((m'.put (itC e.2.1 (f (rn w)) (mpA N e.2.2.2))).put (bndI e.2.1)).sS S' := by unfold MK.cal; rw [hs', ← r2, ← r5 c9]; exact if_pos (by rw [r1]; exact c9)
      rw [o1, o2]
      exact (BDY.bd (hB.put (by rw [mp_itC g9]) (fun q => absurd (show (10 : Int) = 12 from q) (by decide))) g9).sS hl
    · have c9' : ¬ e'.1 = 9 := by rw [r1]; exact c9
      have o1 : m.cal rn w = m := by unfold MK.cal; rw [hs]; exact if_neg c9
      have o2 : m'.cal (fun w => f (rn w)) w = m' := by unfold MK.cal; rw [hs']; exact if_neg c9'
      rw [o1, o2]; exact hB
end BDYS
abbrev ZT : List Nat := [29, 51, 34, 36]
def T11 (S : List ME) : Prop := ∃ e S', S = e :: S' ∧ e.1 = 11
def DBB (k : Nat) (K : List Nat) : Prop := (k = 28 ∧ K = [51, 34, 36]) ∨ (k = 223 ∧ K = ZT) ∨ (k = 29 ∧ K = [51, 34, 36]) ∨ (k = 40 ∧ K = [51, 34, 36]) ∨ (k = 51 ∧ K = [34, 36]) ∨ ((k = 20 ∨ k = 22 ∨ k = 21 ∨ k = 39 ∨ k = 23 ∨ k = 159) ∧ K = ZT) ∨ (k = 141 ∧ K = 159 :: ZT)
def DCC (e : Int) (k : Nat) (K : List Nat) : Prop := (e = 1 ∧ k = 51 ∧ (K = 21 :: ZT ∨ K = 39 :: ZT ∨ K = 23 :: ZT)) ∨ (e = 8 ∧ ((k = 161 ∧ K = 25 :: ZT) ∨ (k = 25 ∧ K = ZT))) ∨ (e = 9 ∧ ((k = 26 ∧ K = 159 :: ZT) ∨ (k = 38 ∧ K = 141 :: 159 :: ZT)))
def DIR : List Nat → List ME → Prop
  | [], _ => False
  | k :: K, S => k ≤ 4 ∨ k = 34 ∨ (T11 S ∧ DBB k K) ∨ ∃ e S', S = e :: S' ∧ ((e.1 = 5 ∧ k = 52 ∧ K = 2 :: 51 :: 28 :: 52 :: ZT) ∨ (T11 S' ∧ DCC e.1 k K))
section DIRS
variable {k : Nat} {K : List Nat} {S : List ME}
theorem DIR.no (h : DIR (k :: K) S) (h1 : k = 6 ∨ k = 7 ∨ k = 8 ∨ k = 9 ∨ k = 27 ∨ k = 24) : False := by
  rcases h with h | h | ⟨_, h⟩ | ⟨e, S', _, ⟨_, h, _⟩ | ⟨_, h⟩⟩
  · omega
  · omega
  · unfold DBB at h; omega
  · omega
  · unfold DCC at h; omega
theorem DIR.sml (h : k ≤ 4) : DIR (k :: K) S := Or.inl h
theorem DIR.bb (h : T11 S) (g : DBB k K) : DIR (k :: K) S := Or.inr (Or.inr (Or.inl ⟨h, g⟩))
theorem DIR.cc {e : ME} {S' : List ME} (hS : S = e :: S') (h : T11 S') (g : DCC e.1 k K) : DIR (k :: K) S := Or.inr (Or.inr (Or.inr ⟨e, S', hS, Or.inr ⟨h, g⟩⟩))
/-- at a mark: its top and the rest -/
theorem DIR.b51 (h : DIR (51 :: K) S) : ∃ e S', S = e :: S' ∧ ((e.1 = 11 ∧ K = [34, 36]) ∨ (e.1 = 1 ∧ T11 S' ∧ (K = 21 :: ZT ∨ K = 39 :: ZT ∨ K = 23 :: ZT))) := by
  rcases h with h | h | ⟨⟨e, S', h1, h2⟩, h⟩ | ⟨e, S', h1, ⟨_, h, _⟩ | ⟨h2, h⟩⟩
  · omega
  · omega
  · refine ⟨e, S', h1, Or.inl ⟨h2, ?_⟩⟩
    unfold DBB at h
    rcases h with h | h | h | h | h | h | h
    · omega
    · omega
    · omega
    · omega
    · exact h.2
    · omega
    · omega
  · omega
  · refine ⟨e, S', h1, Or.inr ?_⟩
    unfold DCC at h
    rcases h with ⟨a, _, b⟩ | ⟨_, ⟨a, _⟩ | ⟨a, _⟩⟩ | ⟨_, ⟨a, _⟩ | ⟨a, _⟩⟩
    · exact ⟨a, h2, b⟩
    · omega
    · omega
    · omega
    · omega
theorem DIR.b52 (h : DIR (52 :: K) S) : ∃ e S', S = e :: S' ∧ e.1 = 5 ∧ K = 2 :: 51 :: 28 :: 52 :: ZT := by
  rcases h with h | h | ⟨_, h⟩ | ⟨e, S', h1, ⟨h2, _, h⟩ | ⟨_, h⟩⟩
  · omega
  · omega
  · unfold DBB at h; omega
  · exact ⟨e, S', h1, h2, h⟩
  · unfold DCC at h; omega
/-- tags that stand over the block's ring -/
theorem DIR.bZ (h : DIR (k :: K) S) (hk : k = 20 ∨ k = 21 ∨ k = 22 ∨ k = 23 ∨ k = 39 ∨ k = 159 ∨ k = 223) : T11 S ∧ K = ZT := by
  rcases h with h | h | ⟨h1, h⟩ | ⟨e, S', h1, ⟨_, h, _⟩ | ⟨_, h⟩⟩
  · omega
  · omega
  · refine ⟨h1, ?_⟩
    unfold DBB at h
    rcases h with h | h | h | h | h | h | h
    · omega
    · exact h.2
    · omega
    · omega
    · omega
    · exact h.2
    · omega
  · omega
  · unfold DCC at h; omega
theorem DIR.bR (h : DIR (k :: K) S) (hk : k = 28 ∨ k = 29 ∨ k = 40) : T11 S ∧ K = [51, 34, 36] := by
  rcases h with h | h | ⟨h1, h⟩ | ⟨e, S', h1, ⟨_, h, _⟩ | ⟨_, h⟩⟩
  · omega
  · omega
  · refine ⟨h1, ?_⟩
    unfold DBB at h
    rcases h with h | h | h | h | h | h | h
    · exact h.2
    · omega
    · exact h.2
    · exact h.2
    · omega
    · omega
    · omega
  · omega
  · unfold DCC at h; omega
theorem DIR.b141 (h : DIR (141 :: K) S) : T11 S ∧ K = 159 :: ZT := by
  rcases h with h | h | ⟨h1, h⟩ | ⟨e, S', h1, ⟨_, h, _⟩ | ⟨_, h⟩⟩
  · omega
  · omega
  · refine ⟨h1, ?_⟩
    unfold DBB at h
    rcases h with h | h | h | h | h | h | h
    · omega
    · omega
    · omega
    · omega
    · omega
    · omega
    · exact h.2
  · omega
  · unfold DCC at h; omega
theorem DIR.b8 (h : DIR (k :: K) S) (hk : k = 161 ∨ k = 25 ∨ k = 26 ∨ k = 38) : ∃ e S', S = e :: S' ∧ T11 S' ∧ ((k = 161 ∧ e.1 = 8 ∧ K = 25 :: ZT) ∨ (k = 25 ∧ e.1 = 8 ∧ K = ZT) ∨ (k = 26 ∧ e.1 = 9 ∧ K = 159 :: ZT) ∨ (k = 38 ∧ e.1 = 9 ∧ K = 141 :: 159 :: ZT)) := by
  rcases h with h | h | ⟨h1, h⟩ | ⟨e, S', h1, ⟨_, h, _⟩ | ⟨h2, h⟩⟩
  · omega
  · omega
  · unfold DBB at h; omega
  · omega
  · refine ⟨e, S', h1, h2, ?_⟩
    unfold DCC at h
    rcases h with ⟨_, a, _⟩ | ⟨c, ⟨a, b⟩ | ⟨a, b⟩⟩ | ⟨c, ⟨a, b⟩ | ⟨a, b⟩⟩
    · omega
    · exact Or.inl ⟨a, c, b⟩
    · exact Or.inr (Or.inl ⟨a, c, b⟩)
    · exact Or.inr (Or.inr (Or.inl ⟨a, c, b⟩))
    · exact Or.inr (Or.inr (Or.inr ⟨a, c, b⟩))
end DIRS
section STB
variable {N : Int} {f : Int → Int} {m m' : MK} {s : Int → Int} {nm : Int → Int64 → Int} {rn : Int64 → Int} {tb Nf : Int → Int} {k : Nat} {K : List Nat} {t : TK} {x : Int × Int × Int} {q : QR} {r : List Nat × TK × (Int × Int × Int) × QR × List EV} {w : Int64}
theorem one_q : (m.one tb).2.2.2.2 = m.2.2.2.2 ∧ (m.one tb).rt = m.rt := by
  unfold MK.one
  split
  · exact ⟨rfl, rfl⟩
  · repeat' split
    all_goals exact ⟨rfl, rfl⟩
theorem two_q : m.two.2.2.2.2 = m.2.2.2.2 ∧ m.two.rt = m.rt ∧ m.two.2.2.1 = m.2.2.1 := by
  unfold MK.two
  split
  · exact ⟨rfl, rfl, rfl⟩
  · repeat' split
    all_goals exact ⟨rfl, rfl, rfl⟩
theorem cal_q : (m.cal rn w).2.2.2.2 = m.2.2.2.2 ∧ (m.cal rn w).rt = m.rt ∧ (m.cal rn w).2.2.1 = m.2.2.1 := by
  unfold MK.cal
  split
  · exact ⟨rfl, rfl, rfl⟩
  · split
    · exact ⟨rfl, rfl, rfl⟩
    · exact ⟨rfl, rfl, rfl⟩
theorem top_q {g : ME → ME} : (m.top g).2.2.2.2 = m.2.2.2.2 ∧ (m.top g).rt = m.rt ∧ (m.top g).2.2.1 = m.2.2.1 := by
  unfold MK.top
  split
  · exact ⟨rfl, rfl, rfl⟩
  · exact ⟨rfl, rfl, rfl⟩
theorem top_S {g : ME → ME} {e : ME} {S : List ME} (h : m.S = e :: S) : (m.top g).S = g e :: S := by
  unfold MK.top
  rw [h]
  rfl
theorem cal_S {e : ME} {S : List ME} (h : m.S = e :: S) (h9 : e.1 = 9) : (m.cal rn w).S = S := by
  unfold MK.cal
  rw [h]
  exact congrArg MK.S (if_pos h9)
theorem BDY.top {g g' : ME → ME} (h : BDY N f m m') (hg : ∀ e e', SRL N e e' → SRL N (g e) (g' e')) : BDY N f (m.top g) (m'.top g') := by
  obtain ⟨h1, h2, h3⟩ := h
  cases hs : m.S with
  | nil =>
    rw [hs] at h3
    have o1 : m.top g = m := by unfold MK.top; rw [hs]
    have o2 : m'.top g' = m' := by unfold MK.top; rw [h3.nil]
    rw [o1, o2]; exact ⟨h1, h2, by rw [hs]; exact h3⟩
  | cons e S =>
    rw [hs] at h3
    obtain ⟨e', S', hs', hr, hl⟩ := h3.cons
    have o1 : m.top g = m.sS (g e :: S) := by unfold MK.top; rw [hs]
    have o2 : m'.top g' = m'.sS (g' e' :: S') := by unfold MK.top; rw [hs']
    rw [o1, o2]
    exact ⟨h1, h2, hg e e' hr, hl⟩
theorem mkk_df (h : ¬ (k = 0 ∨ k = 1 ∨ k = 6 ∨ k = 8 ∨ k = 9 ∨ k = 20 ∨ k = 21 ∨ k = 22 ∨ k = 23 ∨ k = 24 ∨ k = 25 ∨ k = 27 ∨ k = 34 ∨ k = 35 ∨ k = 38 ∨ k = 39 ∨ k = 51 ∨ k = 52)) : mkk s nm rn tb k t q m = m := by
  unfold mkk
  split
  all_goals first
    | rfl
    | (exfalso; apply h; decide)
def PDR (N : Int) (K : List Nat) (m m' : MK) : Prop := PRL N m m' ∨ DIR K m.S
def SBQ (N : Int) (f : Int → Int) (K : List Nat) (m m' M M' : MK) : Prop := BDY N f M M' ∧ PDR N K M M' ∧ M.rt = m.rt ∧ M.2.2.2.2 = m.2.2.2.2 ∧ M'.2.2.2.2 = m'.2.2.2.2
theorem SBQ.same (hB : BDY N f m m') (h : PDR N K m m') : SBQ N f K m m' m m' := ⟨hB, h, rfl, rfl, rfl⟩
theorem DIR.oth {S : List ME} (h : DIR (k :: K) S) : k ≤ 4 ∨ k = 34 ∨ k = 28 ∨ k = 29 ∨ k = 40 ∨ k = 51 ∨ k = 20 ∨ k = 21 ∨ k = 22 ∨ k = 23 ∨ k = 39 ∨ k = 159 ∨ k = 223 ∨ k = 141 ∨ k = 52 ∨ k = 161 ∨ k = 25 ∨ k = 26 ∨ k = 38 := by
  rcases h with h | h | ⟨h1, h⟩ | ⟨e, S', h1, ⟨_, h, _⟩ | ⟨_, h⟩⟩
  · omega
  · omega
  · unfold DBB at h; omega
  · omega
  · unfold DCC at h; omega
theorem BDY.step (hnm : ∀ r w, nm r w < 1000) (hk : NTg k) (hB : BDY N f m m') (hN : Nf m.rt = N) (D : PDR N (k :: K) m m') (hs : stk s k t x q = some r) : SBQ N f (r.1 ++ K) m m' (mkk s nm rn tb1 k t q m) (mkk s nm (fun w => f (rn w)) Nf k t q m') := by
  have rt' := hB.rt
  by_cases k0 : k = 0
  · subst k0
    by_cases z : sgn t 45
    · have e1 : mkk s nm rn tb1 0 t q m = m.push (0, 2, 1, [(0, 0)]) := if_pos z
      have e2 : mkk s nm (fun w => f (rn w)) Nf 0 t q m' = m'.push (0, 2, 1, [(0, 0)]) := if_pos z
      obtain rfl := Option.some.inj (hs.symm.trans (if_pos z))
      rw [e1, e2]
      exact ⟨hB.psh ⟨rfl, rfl, rfl, fun _ => op_1.symm, fun y => absurd y (by decide), fun y => by rcases y with y | y <;> exact absurd y (by decide)⟩, Or.inr (DIR.sml (show 1 ≤ 4 by decide)), rfl, rfl, rfl⟩
    · have e1 : mkk s nm rn tb1 0 t q m = m := if_neg z
      have e2 : mkk s nm (fun w => f (rn w)) Nf 0 t q m' = m' := if_neg z
      obtain rfl := Option.some.inj (hs.symm.trans (if_neg z))
      rw [e1, e2]
      exact SBQ.same hB (Or.inr (DIR.sml (show 1 ≤ 4 by decide)))
  by_cases k1 : k = 1
  · subst k1
    by_cases z : t.2.2.1 = 3
    · have e1 : mkk s nm rn tb1 1 t q m = m.sP 1 t.2.2.2.1 := if_pos z
      have e2 : mkk s nm (fun w => f (rn w)) Nf 1 t q m' = m'.sP 1 t.2.2.2.1 := if_pos z
      rw [e1, e2]
      exact ⟨hB.sP, Or.inl ⟨rfl, op_1.symm⟩, rfl, rfl, rfl⟩
    · by_cases y : nam t
      · have e1 : mkk s nm rn tb1 1 t q m = m.sP 2 (nm m.rt t.2.2.2.2) := (if_neg z).trans (if_pos y)
        have e2 : mkk s nm (fun w => f (rn w)) Nf 1 t q m' = m'.sP 2 (nm m.rt t.2.2.2.2) := ((if_neg z).trans (if_pos y)).trans (by rw [rt'])
        rw [e1, e2]
        exact ⟨hB.sP, Or.inl ⟨rfl, (op_lt (hnm _ _)).symm⟩, rfl, rfl, rfl⟩
      · have e1 : mkk s nm rn tb1 1 t q m = m := (if_neg z).trans (if_neg y)
        have e2 : mkk s nm (fun w => f (rn w)) Nf 1 t q m' = m' := (if_neg z).trans (if_neg y)
        have h2 := hs.symm.trans (if_neg (fun u => by rcases u with u | u; exact z u; exact y u))
        by_cases u : sgn t 40
        · obtain rfl := Option.some.inj (h2.trans (if_pos u))
          rw [e1, e2]
          exact SBQ.same hB (Or.inr (DIR.sml (show 2 ≤ 4 by decide)))
        · exact absurd (h2.trans (if_neg u)) (by simp)
  by_cases k2 : k = 2
  · subst k2
    rw [mkk_df (by decide), mkk_df (by decide)]
    by_cases u : x.1 = 8
    · exact absurd (hs.symm.trans (if_pos u)) (by simp)
    · obtain rfl := Option.some.inj (hs.symm.trans (if_neg u))
      exact SBQ.same hB (Or.inr (DIR.sml (show 3 ≤ 4 by decide)))
  by_cases k3 : k = 3
  · subst k3
    rw [mkk_df (by decide), mkk_df (by decide)]
    obtain rfl := Option.some.inj (hs.symm.trans rfl)
    exact SBQ.same hB (Or.inr (DIR.sml (show 4 ≤ 4 by decide)))
  by_cases k4 : k = 4
  · subst k4
    rw [mkk_df (by decide), mkk_df (by decide)]
    obtain rfl := Option.some.inj (hs.symm.trans rfl)
    exact SBQ.same hB (Or.inr (DIR.sml (show 0 ≤ 4 by decide)))
  have srl0 : ∀ o : Int, PRL N m m' → SRL N (0, o, m.pk, [(m.pv, 0)]) (0, o, m'.pk, [(m'.pv, 0)]) := fun o p => ⟨rfl, rfl, p.1, fun _ => p.2, fun y => absurd (show (0 : Int) = 9 from y) (by decide), fun y => by rcases y with y | y; exact absurd (show (0 : Int) = 8 from y) (by decide); exact absurd (show (0 : Int) = 9 from y) (by decide)⟩
  by_cases k6 : k = 6
  · subst k6
    have p : PRL N m m' := D.elim id (fun d => (d.no (by decide)).elim)
    by_cases z : sgn t 61
    · have e1 : mkk s nm rn tb1 6 t q m = m.push (0, 4, m.pk, [(m.pv, 0)]) := if_pos z
      have e2 : mkk s nm (fun w => f (rn w)) Nf 6 t q m' = m'.push (0, 4, m'.pk, [(m'.pv, 0)]) := if_pos z
      rw [e1, e2]; exact ⟨hB.psh (srl0 4 p), Or.inl p, rfl, rfl, rfl⟩
    · by_cases y : sgn t 60
      · have e1 : mkk s nm rn tb1 6 t q m = m.push (0, 5, m.pk, [(m.pv, 0)]) := (if_neg z).trans (if_pos y)
        have e2 : mkk s nm (fun w => f (rn w)) Nf 6 t q m' = m'.push (0, 5, m'.pk, [(m'.pv, 0)]) := (if_neg z).trans (if_pos y)
        rw [e1, e2]; exact ⟨hB.psh (srl0 5 p), Or.inl p, rfl, rfl, rfl⟩
      · have e1 : mkk s nm rn tb1 6 t q m = m := (if_neg z).trans (if_neg y)
        have e2 : mkk s nm (fun w => f (rn w)) Nf 6 t q m' = m' := (if_neg z).trans (if_neg y)
        rw [e1, e2]; exact SBQ.same hB (Or.inl p)
  by_cases k8 : k = 8
  · subst k8
    have p : PRL N m m' := D.elim id (fun d => (d.no (by decide)).elim)
    by_cases z : sgn t 43
    · have e1 : mkk s nm rn tb1 8 t q m = m.push (0, 1, m.pk, [(m.pv, 0)]) := if_pos z
      have e2 : mkk s nm (fun w => f (rn w)) Nf 8 t q m' = m'.push (0, 1, m'.pk, [(m'.pv, 0)]) := if_pos z
      rw [e1, e2]; exact ⟨hB.psh (srl0 1 p), Or.inl p, rfl, rfl, rfl⟩
    · by_cases y : sgn t 45
      · have e1 : mkk s nm rn tb1 8 t q m = m.push (0, 2, m.pk, [(m.pv, 0)]) := (if_neg z).trans (if_pos y)
        have e2 : mkk s nm (fun w => f (rn w)) Nf 8 t q m' = m'.push (0, 2, m'.pk, [(m'.pv, 0)]) := (if_neg z).trans (if_pos y)
        rw [e1, e2]; exact ⟨hB.psh (srl0 2 p), Or.inl p, rfl, rfl, rfl⟩
      · have e1 : mkk s nm rn tb1 8 t q m = m := (if_neg z).trans (if_neg y)
        have e2 : mkk s nm (fun w => f (rn w)) Nf 8 t q m' = m' := (if_neg z).trans (if_neg y)
        rw [e1, e2]; exact SBQ.same hB (Or.inl p)
  by_cases k9 : k = 9
  · subst k9
    have p : PRL N m m' := D.elim id (fun d => (d.no (by decide)).elim)
    by_cases z : sgn t 42
    · have e1 : mkk s nm rn tb1 9 t q m = m.push (0, 3, m.pk, [(m.pv, 0)]) := if_pos z
      have e2 : mkk s nm (fun w => f (rn w)) Nf 9 t q m' = m'.push (0, 3, m'.pk, [(m'.pv, 0)]) := if_pos z
      rw [e1, e2]; exact ⟨hB.psh (srl0 3 p), Or.inl p, rfl, rfl, rfl⟩
    · have e1 : mkk s nm rn tb1 9 t q m = m := if_neg z
      have e2 : mkk s nm (fun w => f (rn w)) Nf 9 t q m' = m' := if_neg z
      rw [e1, e2]; exact SBQ.same hB (Or.inl p)
  by_cases k20 : k = 20
  · subst k20
    by_cases z : wrd t 512852847717
    · have e1 : mkk s nm rn tb1 20 t q m = m.stm := if_pos z
      have e2 : mkk s nm (fun w => f (rn w)) Nf 20 t q m' = m'.stm := if_pos z
      obtain rfl := Option.some.inj (hs.symm.trans (if_pos z))
      rw [e1, e2]
      refine ⟨hB.stm, D.imp id (fun d => ?_), rfl, rfl, rfl⟩
      obtain ⟨d1, d2⟩ := d.bZ (by decide)
      rw [d2]
      exact DIR.bb d1 (Or.inr (Or.inr (Or.inr (Or.inr (Or.inr (Or.inl ⟨by decide, rfl⟩))))))
    · have e1 : mkk s nm rn tb1 20 t q m = m.stm.push (1, 0, 0, []) := if_neg z
      have e2 : mkk s nm (fun w => f (rn w)) Nf 20 t q m' = m'.stm.push (1, 0, 0, []) := if_neg z
      rw [e1, e2]
      refine ⟨(hB.stm).psh (srl_id (show (1 : Int) ≠ 0 by decide) (show (1 : Int) ≠ 8 by decide) (show (1 : Int) ≠ 9 by decide)), D.imp id (fun d => ?_), rfl, rfl, rfl⟩
      obtain ⟨d1, d2⟩ := d.bZ (by decide)
      have h2 := hs.symm.trans (if_neg z)
      rw [d2]
      by_cases y1 : wrd t 26982
      · obtain rfl := Option.some.inj (h2.trans (if_pos y1))
        exact DIR.cc (e := (1, 0, 0, [])) (S' := m.S) rfl d1 (Or.inl ⟨rfl, rfl, Or.inl rfl⟩)
      · have h3 := h2.trans (if_neg y1)
        by_cases y2 : wrd t 7304564 ∨ wrd t 125780071117422
        · obtain rfl := Option.some.inj (h3.trans (if_pos y2))
          exact DIR.cc (e := (1, 0, 0, [])) (S' := m.S) rfl d1 (Or.inl ⟨rfl, rfl, Or.inr (Or.inl rfl)⟩)
        · have h4 := h3.trans (if_neg y2)
          by_cases y3 : nam t
          · obtain rfl := Option.some.inj (h4.trans (if_pos y3))
            exact DIR.cc (e := (1, 0, 0, [])) (S' := m.S) rfl d1 (Or.inl ⟨rfl, rfl, Or.inr (Or.inr rfl)⟩)
          · exact absurd (h4.trans (if_neg y3)) (by simp)
  by_cases k21 : k = 21
  · subst k21
    obtain rfl := Option.some.inj (hs.symm.trans rfl)
    exact ⟨hB.psh (e := (2, 0, 0, [])) (e' := (2, 0, 0, [])) (srl_id (show (2 : Int) ≠ 0 by decide) (show (2 : Int) ≠ 8 by decide) (show (2 : Int) ≠ 9 by decide)), Or.inr (DIR.sml (show 2 ≤ 4 by decide)), rfl, rfl, rfl⟩
  by_cases k22 : k = 22
  · subst k22
    obtain rfl := Option.some.inj (hs.symm.trans rfl)
    refine ⟨hB.psh (e := (5, 0, 0, [])) (e' := (5, 0, 0, [])) (srl_id (show (5 : Int) ≠ 0 by decide) (show (5 : Int) ≠ 8 by decide) (show (5 : Int) ≠ 9 by decide)), D.imp id (fun d => ?_), rfl, rfl, rfl⟩
    obtain ⟨d1, d2⟩ := d.bZ (by decide)
    rw [d2]
    exact Or.inr (Or.inr (Or.inr ⟨(5, 0, 0, []), m.S, rfl, Or.inl ⟨rfl, rfl, rfl⟩⟩))
  by_cases k23 : k = 23
  · subst k23
    have e1 : mkk s nm rn tb1 23 t q m = m.push (8, nm m.rt t.2.2.2.2, 0, []) := rfl
    have e2 : mkk s nm (fun w => f (rn w)) Nf 23 t q m' = m'.push (8, nm m.rt t.2.2.2.2, 0, []) := by rw [← rt']; rfl
    obtain rfl := Option.some.inj (hs.symm.trans rfl)
    rw [e1, e2]
    refine ⟨hB.psh ⟨rfl, rfl, rfl, fun y => absurd (show (8 : Int) = 0 from y) (by decide), fun y => absurd (show (8 : Int) = 9 from y) (by decide), fun _ => hnm _ _⟩, D.imp id (fun d => ?_), rfl, rfl, rfl⟩
    obtain ⟨d1, d2⟩ := d.bZ (by decide)
    rw [d2]
    exact DIR.cc (e := (8, nm m.rt t.2.2.2.2, 0, [])) (S' := m.S) rfl d1 (Or.inr (Or.inl ⟨rfl, Or.inl ⟨rfl, rfl⟩⟩))
  by_cases k24 : k = 24
  · subst k24
    have p : PRL N m m' := D.elim id (fun d => (d.no (by decide)).elim)
    by_cases z : wrd t 1701606245
    · have e1 : mkk s nm rn tb1 24 t q m = m.top (fun e => if e.1 = 3 then (4, e.2.1, 0, []) else e) := if_pos z
      have e2 : mkk s nm (fun w => f (rn w)) Nf 24 t q m' = m'.top (fun e => if e.1 = 3 then (4, e.2.1, 0, []) else e) := if_pos z
      rw [e1, e2]
      refine ⟨hB.top (fun e e' g => ?_), Or.inl ⟨?_, ?_⟩, top_q.2.1, top_q.1, top_q.1⟩
      · by_cases c : e.1 = 3
        · rw [if_pos c, if_pos (show e'.1 = 3 by rw [g.1]; exact c), g.2.1]
          exact srl_id (show (4 : Int) ≠ 0 by decide) (show (4 : Int) ≠ 8 by decide) (show (4 : Int) ≠ 9 by decide)
        · rw [if_neg c, if_neg (show ¬ e'.1 = 3 by rw [g.1]; exact c)]; exact g
      · unfold MK.pk; rw [top_q.2.2, top_q.2.2]; exact p.1
      · unfold MK.pk MK.pv; rw [top_q.2.2, top_q.2.2]; exact p.2
    · have e1 : mkk s nm rn tb1 24 t q m = m := if_neg z
      have e2 : mkk s nm (fun w => f (rn w)) Nf 24 t q m' = m' := if_neg z
      rw [e1, e2]; exact SBQ.same hB (Or.inl p)
  by_cases k25 : k = 25
  · subst k25
    by_cases z : nam t ∧ sgn (advT s t.2.1) 40
    · have e1 : mkk s nm rn tb1 25 t q m = m.top (fun e => if e.1 = 8 then (9, e.2.1, 0, []) else e) := if_pos z
      have e2 : mkk s nm (fun w => f (rn w)) Nf 25 t q m' = m'.top (fun e => if e.1 = 8 then (9, e.2.1, 0, []) else e) := if_pos z
      obtain rfl := Option.some.inj (hs.symm.trans ((if_pos z.1).trans (if_pos z.2)))
      rw [e1, e2]
      refine ⟨hB.top (fun e e' g => ?_), ?_, top_q.2.1, top_q.1, top_q.1⟩
      · by_cases c : e.1 = 8
        · rw [if_pos c, if_pos (show e'.1 = 8 by rw [g.1]; exact c), g.2.1]
          exact ⟨rfl, rfl, rfl, fun y => absurd (show (9 : Int) = 0 from y) (by decide), fun _ => rfl, fun _ => g.2.2.2.2.2 (Or.inl c)⟩
        · rw [if_neg c, if_neg (show ¬ e'.1 = 8 by rw [g.1]; exact c)]; exact g
      · rcases D with p | d
        · exact Or.inl ⟨by unfold MK.pk; rw [top_q.2.2, top_q.2.2]; exact p.1, by unfold MK.pk MK.pv; rw [top_q.2.2, top_q.2.2]; exact p.2⟩
        · obtain ⟨e, S', d1, d2, d3⟩ := d.b8 (by decide)
          rcases d3 with d3 | d3 | d3 | d3
          · exact absurd d3.1 (by decide)
          · rw [d3.2.2]
            exact Or.inr (DIR.cc (e := (9, e.2.1, 0, [])) (S' := S') (by rw [top_S d1, if_pos d3.2.1]) d2 (Or.inr (Or.inr ⟨rfl, Or.inl ⟨rfl, rfl⟩⟩)))
          · exact absurd d3.1 (by decide)
          · exact absurd d3.1 (by decide)
    · have e1 : mkk s nm rn tb1 25 t q m = m := if_neg z
      have e2 : mkk s nm (fun w => f (rn w)) Nf 25 t q m' = m' := if_neg z
      rw [e1, e2]
      refine SBQ.same hB (Or.inr ?_)
      by_cases y : nam t
      · obtain rfl := Option.some.inj (hs.symm.trans ((if_pos y).trans (if_neg (fun u => z ⟨y, u⟩))))
        exact DIR.sml (show 2 ≤ 4 by decide)
      · obtain rfl := Option.some.inj (hs.symm.trans (if_neg y))
        exact DIR.sml (show 2 ≤ 4 by decide)
  by_cases k26 : k = 26
  · subst k26
    rw [mkk_df (by decide), mkk_df (by decide)]
    by_cases z : sgn (advT s t.2.1) 41
    · obtain rfl := Option.some.inj (hs.symm.trans (if_pos z))
      refine SBQ.same hB (D.imp id (fun d => ?_))
      obtain ⟨e, S', d1, d2, d3⟩ := d.b8 (by decide)
      rcases d3 with d3 | d3 | d3 | d3
      · exact absurd d3.1 (by decide)
      · exact absurd d3.1 (by decide)
      · rw [d3.2.2]
        exact DIR.cc d1 d2 (Or.inr (Or.inr ⟨d3.2.1, Or.inr ⟨rfl, rfl⟩⟩))
      · exact absurd d3.1 (by decide)
    · obtain rfl := Option.some.inj (hs.symm.trans (if_neg z))
      exact SBQ.same hB (Or.inr (DIR.sml (show 2 ≤ 4 by decide)))
  by_cases k27 : k = 27
  · subst k27
    have p : PRL N m m' := D.elim id (fun d => (d.no (by decide)).elim)
    refine ⟨hB.top (g := fun e => if e.1 = 9 then (9, e.2.1, 0, e.2.2.2 ++ [(m.pk, m.pv)]) else e) (g' := fun e => if e.1 = 9 then (9, e.2.1, 0, e.2.2.2 ++ [(m'.pk, m'.pv)]) else e) (fun e e' g => ?_), Or.inl ⟨?_, ?_⟩, top_q.2.1, top_q.1, top_q.1⟩
    · by_cases c : e.1 = 9
      · have c' : e'.1 = 9 := by rw [g.1]; exact c
        show SRL N (if e.1 = 9 then (9, e.2.1, 0, e.2.2.2 ++ [(m.pk, m.pv)]) else e) (if e'.1 = 9 then (9, e'.2.1, 0, e'.2.2.2 ++ [(m'.pk, m'.pv)]) else e')
        rw [if_pos c, if_pos c', g.2.1, g.2.2.2.2.1 c, p.1, p.2]
        exact ⟨rfl, rfl, rfl, fun y => absurd (show (9 : Int) = 0 from y) (by decide), fun _ => by unfold mpA; rw [List.map_append]; rfl, fun _ => g.2.2.2.2.2 (Or.inr c)⟩
      · show SRL N (if e.1 = 9 then (9, e.2.1, 0, e.2.2.2 ++ [(m.pk, m.pv)]) else e) (if e'.1 = 9 then (9, e'.2.1, 0, e'.2.2.2 ++ [(m'.pk, m'.pv)]) else e')
        rw [if_neg c, if_neg (show ¬ e'.1 = 9 by rw [g.1]; exact c)]; exact g
    · show (m'.top _).2.2.1.1 = (m.top _).2.2.1.1; rw [top_q.2.2, top_q.2.2]; exact p.1
    · show (m'.top _).2.2.1.2 = opN N (m.top _).2.2.1.1 (m.top _).2.2.1.2; rw [top_q.2.2, top_q.2.2]; exact p.2
  by_cases k28 : k = 28
  · subst k28
    rw [mkk_df (by decide), mkk_df (by decide)]
    by_cases u : x.2.1 = 6
    · exact absurd (hs.symm.trans (if_pos u)) (by simp)
    · obtain rfl := Option.some.inj (hs.symm.trans (if_neg u))
      refine SBQ.same hB (D.imp id (fun d => ?_))
      obtain ⟨d1, d2⟩ := d.bR (by decide)
      rw [d2]
      exact DIR.bb d1 (Or.inr (Or.inl ⟨rfl, rfl⟩))
  by_cases k29 : k = 29
  · subst k29
    rw [mkk_df (by decide), mkk_df (by decide)]
    by_cases u : sgn t 125
    · obtain rfl := Option.some.inj (hs.symm.trans (if_pos u))
      refine SBQ.same hB (D.imp id (fun d => ?_))
      obtain ⟨d1, d2⟩ := d.bR (by decide)
      rw [d2]
      exact DIR.bb d1 (Or.inr (Or.inr (Or.inr (Or.inl ⟨rfl, rfl⟩))))
    · obtain rfl := Option.some.inj (hs.symm.trans (if_neg u))
      refine SBQ.same hB (D.imp id (fun d => ?_))
      obtain ⟨d1, d2⟩ := d.bR (by decide)
      rw [d2]
      exact DIR.bb d1 (Or.inr (Or.inr (Or.inr (Or.inr (Or.inr (Or.inl ⟨by decide, rfl⟩))))))
  by_cases k38 : k = 38
  · subst k38
    obtain rfl := Option.some.inj (hs.symm.trans rfl)
    refine ⟨hB.cal, ?_, cal_q.2.1, cal_q.1, cal_q.1⟩
    rcases D with p | d
    · refine Or.inl ⟨?_, ?_⟩
      · show (m'.cal _ _).2.2.1.1 = (m.cal _ _).2.2.1.1; rw [cal_q.2.2, cal_q.2.2]; exact p.1
      · show (m'.cal _ _).2.2.1.2 = opN N (m.cal _ _).2.2.1.1 (m.cal _ _).2.2.1.2; rw [cal_q.2.2, cal_q.2.2]; exact p.2
    · obtain ⟨e, S', d1, d2, d3⟩ := d.b8 (by decide)
      rcases d3 with d3 | d3 | d3 | d3
      · exact absurd d3.1 (by decide)
      · exact absurd d3.1 (by decide)
      · exact absurd d3.1 (by decide)
      · rw [d3.2.2]
        refine Or.inr (DIR.bb ?_ (Or.inr (Or.inr (Or.inr (Or.inr (Or.inr (Or.inr ⟨rfl, rfl⟩)))))))
        show T11 (m.cal rn q.1).S
        rw [cal_S d1 d3.2.1]; exact d2
  by_cases k39 : k = 39
  · subst k39
    obtain rfl := Option.some.inj (hs.symm.trans rfl)
    by_cases z : wrd t 7304564
    · have e1 : mkk s nm rn tb1 39 t q m = m.push (10, 6, 0, []) := if_pos z
      have e2 : mkk s nm (fun w => f (rn w)) Nf 39 t q m' = m'.push (10, 6, 0, []) := if_pos z
      rw [e1, e2]
      exact ⟨hB.psh (srl_id (show (10 : Int) ≠ 0 by decide) (show (10 : Int) ≠ 8 by decide) (show (10 : Int) ≠ 9 by decide)), Or.inr (DIR.sml (show 2 ≤ 4 by decide)), rfl, rfl, rfl⟩
    · have e1 : mkk s nm rn tb1 39 t q m = m.push (10, 7, 0, []) := if_neg z
      have e2 : mkk s nm (fun w => f (rn w)) Nf 39 t q m' = m'.push (10, 7, 0, []) := if_neg z
      rw [e1, e2]
      exact ⟨hB.psh (srl_id (show (10 : Int) ≠ 0 by decide) (show (10 : Int) ≠ 8 by decide) (show (10 : Int) ≠ 9 by decide)), Or.inr (DIR.sml (show 2 ≤ 4 by decide)), rfl, rfl, rfl⟩
  by_cases k40 : k = 40
  · subst k40
    rw [mkk_df (by decide), mkk_df (by decide)]
    obtain rfl := Option.some.inj (hs.symm.trans rfl)
    refine SBQ.same hB (D.imp id (fun d => ?_))
    obtain ⟨d1, d2⟩ := d.bR (by decide)
    rw [d2]
    exact DIR.bb d1 (Or.inr (Or.inr (Or.inr (Or.inr (Or.inl ⟨rfl, rfl⟩)))))
  by_cases k51 : k = 51
  · subst k51
    obtain rfl := Option.some.inj (hs.symm.trans rfl)
    have o := BDY.one (tb := Nf) hB hN (D.imp id (fun d => by
      obtain ⟨e, S', d1, d2⟩ := d.b51
      exact ⟨e, S', d1, by rcases d2 with d2 | d2; exact Or.inr d2.1; exact Or.inl d2.1⟩))
    refine ⟨o.1, ?_, one_q.2, one_q.1, one_q.1⟩
    rcases D with p | d
    · exact Or.inl (o.2.1 (Or.inl p))
    · obtain ⟨e, S', d1, d2⟩ := d.b51
      rcases d2 with ⟨d2, d3⟩ | ⟨d2, d3, d4⟩
      · rw [d3]; exact Or.inr (Or.inr (Or.inl rfl))
      · have oS : (mkk s nm rn tb1 51 t q m).S = S' := o.2.2 e S' d1 (Or.inl d2)
        refine Or.inr ?_
        rcases d4 with d4 | d4 | d4
        · rw [d4]; exact DIR.bb (by rw [oS]; exact d3) (Or.inr (Or.inr (Or.inr (Or.inr (Or.inr (Or.inl ⟨by decide, rfl⟩))))))
        · rw [d4]; exact DIR.bb (by rw [oS]; exact d3) (Or.inr (Or.inr (Or.inr (Or.inr (Or.inr (Or.inl ⟨by decide, rfl⟩))))))
        · rw [d4]; exact DIR.bb (by rw [oS]; exact d3) (Or.inr (Or.inr (Or.inr (Or.inr (Or.inr (Or.inl ⟨by decide, rfl⟩))))))
  by_cases k52 : k = 52
  · subst k52
    obtain rfl := Option.some.inj (hs.symm.trans rfl)
    refine ⟨hB.two (D.imp id (fun d => by obtain ⟨e, S', d1, d2, d3⟩ := d.b52; exact ⟨e, S', d1, d2⟩)), ?_, two_q.2.1, two_q.1, two_q.1⟩
    rcases D with p | d
    · refine Or.inl ⟨?_, ?_⟩
      · show m'.two.2.2.1.1 = m.two.2.2.1.1; rw [two_q.2.2, two_q.2.2]; exact p.1
      · show m'.two.2.2.1.2 = opN N m.two.2.2.1.1 m.two.2.2.1.2; rw [two_q.2.2, two_q.2.2]; exact p.2
    · obtain ⟨e, S', d1, d2, d3⟩ := d.b52
      rw [d3]; exact Or.inr (DIR.sml (show 2 ≤ 4 by decide))
  have n34 : k ≠ 34 ∧ k ≠ 35 := by rcases hk with y | y <;> omega
  have df : ¬ (k = 0 ∨ k = 1 ∨ k = 6 ∨ k = 8 ∨ k = 9 ∨ k = 20 ∨ k = 21 ∨ k = 22 ∨ k = 23 ∨ k = 24 ∨ k = 25 ∨ k = 27 ∨ k = 34 ∨ k = 35 ∨ k = 38 ∨ k = 39 ∨ k = 51 ∨ k = 52) := by omega
  rw [mkk_df df, mkk_df df]
  refine SBQ.same hB (D.imp id (fun d => ?_))
  by_cases k223 : k = 223
  · subst k223
    obtain ⟨d1, d2⟩ := d.bZ (by decide)
    by_cases u : sgn t (((223 : Nat) : Int) - 100)
    · obtain rfl := Option.some.inj (hs.symm.trans (if_pos u))
      rw [d2]; exact DIR.bb d1 (Or.inr (Or.inr (Or.inl ⟨rfl, rfl⟩)))
    · exact absurd (hs.symm.trans (if_neg u)) (by simp)
  by_cases k159 : k = 159
  · subst k159
    obtain ⟨d1, d2⟩ := d.bZ (by decide)
    by_cases u : sgn t (((159 : Nat) : Int) - 100)
    · obtain rfl := Option.some.inj (hs.symm.trans (if_pos u))
      rw [d2]; exact DIR.bb d1 (Or.inr (Or.inr (Or.inl ⟨rfl, rfl⟩)))
    · exact absurd (hs.symm.trans (if_neg u)) (by simp)
  by_cases k141 : k = 141
  · subst k141
    obtain ⟨d1, d2⟩ := d.b141
    by_cases u : sgn t (((141 : Nat) : Int) - 100)
    · obtain rfl := Option.some.inj (hs.symm.trans (if_pos u))
      rw [d2]; exact DIR.bb d1 (Or.inr (Or.inr (Or.inr (Or.inr (Or.inr (Or.inl ⟨by decide, rfl⟩))))))
    · exact absurd (hs.symm.trans (if_neg u)) (by simp)
  by_cases k161 : k = 161
  · subst k161
    obtain ⟨e, S', d1, d2, d3⟩ := d.b8 (by decide)
    by_cases u : sgn t (((161 : Nat) : Int) - 100)
    · obtain rfl := Option.some.inj (hs.symm.trans (if_pos u))
      rcases d3 with d3 | d3 | d3 | d3
      · rw [d3.2.2]; exact DIR.cc d1 d2 (Or.inr (Or.inl ⟨d3.2.1, Or.inr ⟨rfl, rfl⟩⟩))
      · exact absurd d3.1 (by decide)
      · exact absurd d3.1 (by decide)
      · exact absurd d3.1 (by decide)
    · exact absurd (hs.symm.trans (if_neg u)) (by simp)
  have o := d.oth
  omega
end STB
def HDR (K : List Nat) : Prop := K = [] ∨ K = [36] ∨ K = [30, 36] ∨ K = [140, 31, 36] ∨ K = [31, 36] ∨ K = [141, 35, 36] ∨ K = [32, 36] ∨ K = [33, 36] ∨ K = [35, 36]
def BOT (K : List Nat) : Prop := ∃ p, K = p ++ [34, 36] ∧ ∀ y ∈ p, NTg y
def RLM (Nf f : Int → Int) (K : List Nat) (m m' : MK) : Prop := m'.1 = m.1 ∧ DNX Nf f m m' ∧ (HDR K ∨ (BOT K ∧ BDY (Nf m.rt) f m m' ∧ PDR (Nf m.rt) K m m'))
section RLMS
variable {Nf f : Int → Int} {m m' : MK} {s : Int → Int} {nm : Int → Int64 → Int} {rn : Int64 → Int} {k : Nat} {K : List Nat} {t : TK} {x : Int × Int × Int} {q : QR} {ρ : List EV} {r : List Nat × TK × (Int × Int × Int) × QR × List EV}
theorem RLM.hd (h1 : m'.1 = m.1) (h2 : DNX Nf f m m') (hK : HDR K) : RLM Nf f K m m' := ⟨h1, h2, Or.inl hK⟩
theorem RLM.step (hnm : ∀ r w, nm r w < 1000) (h : RLM Nf f (k :: K) m m') (hs : stk s k t x q = some r) : RLM Nf f (r.1 ++ K) (mkk s nm rn tb1 k t q m) (mkk s nm (fun w => f (rn w)) Nf k t q m') := by
  obtain ⟨h1, h2, h3⟩ := h
  rcases h3 with h3 | ⟨⟨p, hp, hn⟩, hB, D⟩
  · rcases h3 with h3 | h3 | h3 | h3 | h3 | h3 | h3 | h3 | h3
    · exact absurd h3 (by simp)
    · obtain ⟨rfl, rfl⟩ := List.cons.inj h3
      rw [mkk_df (by decide), mkk_df (by decide)]
      by_cases z : t.2.2.1 = 0
      · obtain rfl := Option.some.inj (hs.symm.trans (if_pos z))
        exact RLM.hd h1 h2 (Or.inl rfl)
      · obtain rfl := Option.some.inj (hs.symm.trans (if_neg z))
        exact RLM.hd h1 h2 (Or.inr (Or.inr (Or.inl rfl)))
    · obtain ⟨rfl, rfl⟩ := List.cons.inj h3
      rw [mkk_df (by decide), mkk_df (by decide)]
      by_cases z : nam t
      · obtain rfl := Option.some.inj (hs.symm.trans (if_pos z))
        exact RLM.hd h1 h2 (Or.inr (Or.inr (Or.inr (Or.inl rfl))))
      · exact absurd (hs.symm.trans (if_neg z)) (by simp)
    · obtain ⟨rfl, rfl⟩ := List.cons.inj h3
      rw [mkk_df (by decide), mkk_df (by decide)]
      by_cases z : sgn t (((140 : Nat) : Int) - 100)
      · obtain rfl := Option.some.inj (hs.symm.trans (if_pos z))
        exact RLM.hd h1 h2 (Or.inr (Or.inr (Or.inr (Or.inr (Or.inl rfl)))))
      · exact absurd (hs.symm.trans (if_neg z)) (by simp)
    · obtain ⟨rfl, rfl⟩ := List.cons.inj h3
      rw [mkk_df (by decide), mkk_df (by decide)]
      by_cases z : sgn t 41
      · obtain rfl := Option.some.inj (hs.symm.trans (if_pos z))
        exact RLM.hd h1 h2 (Or.inr (Or.inr (Or.inr (Or.inr (Or.inr (Or.inl rfl))))))
      · obtain rfl := Option.some.inj (hs.symm.trans (if_neg z))
        exact RLM.hd h1 h2 (Or.inr (Or.inr (Or.inr (Or.inr (Or.inr (Or.inr (Or.inl rfl)))))))
    · obtain ⟨rfl, rfl⟩ := List.cons.inj h3
      rw [mkk_df (by decide), mkk_df (by decide)]
      by_cases z : sgn t (((141 : Nat) : Int) - 100)
      · obtain rfl := Option.some.inj (hs.symm.trans (if_pos z))
        exact RLM.hd h1 h2 (Or.inr (Or.inr (Or.inr (Or.inr (Or.inr (Or.inr (Or.inr (Or.inr rfl))))))))
      · exact absurd (hs.symm.trans (if_neg z)) (by simp)
    · obtain ⟨rfl, rfl⟩ := List.cons.inj h3
      rw [mkk_df (by decide), mkk_df (by decide)]
      by_cases z : nam t
      · obtain rfl := Option.some.inj (hs.symm.trans (if_pos z))
        exact RLM.hd h1 h2 (Or.inr (Or.inr (Or.inr (Or.inr (Or.inr (Or.inr (Or.inr (Or.inl rfl))))))))
      · exact absurd (hs.symm.trans (if_neg z)) (by simp)
    · obtain ⟨rfl, rfl⟩ := List.cons.inj h3
      rw [mkk_df (by decide), mkk_df (by decide)]
      by_cases z : sgn t 44
      · obtain rfl := Option.some.inj (hs.symm.trans (if_pos z))
        exact RLM.hd h1 h2 (Or.inr (Or.inr (Or.inr (Or.inr (Or.inr (Or.inr (Or.inl rfl)))))))
      · obtain rfl := Option.some.inj (hs.symm.trans (if_neg z))
        exact RLM.hd h1 h2 (Or.inr (Or.inr (Or.inr (Or.inr (Or.inr (Or.inl rfl))))))
    · obtain ⟨rfl, rfl⟩ := List.cons.inj h3
      obtain rfl := Option.some.inj (hs.symm.trans rfl)
      refine ⟨?_, h2, Or.inr ⟨⟨[28, 51], rfl, by intro y hy; simp only [List.mem_cons, List.not_mem_nil, or_false] at hy; rcases hy with rfl | rfl; exact Or.inl (by decide); exact Or.inr (by decide)⟩, ⟨⟨?_, rfl, Int.le_refl _, Int.le_refl _⟩, fun k k0 k1 => absurd (show k < 0 from k1) (by omega), ⟨srl_id (show (11 : Int) ≠ 0 by decide) (show (11 : Int) ≠ 8 by decide) (show (11 : Int) ≠ 9 by decide), trivial⟩⟩, Or.inr (DIR.bb ⟨(11, 0, 0, []), [], rfl, rfl⟩ (Or.inl ⟨rfl, rfl⟩))⟩⟩
      · show (m'.rt, m'.ln, (0 : Int), (0 : Int), (0 : Int)) = (m.rt, m.ln, 0, 0, 0)
        unfold MK.rt MK.ln; rw [h1]
      · show (m'.rt, m'.ln, (0 : Int), (0 : Int), (0 : Int)) = (m.rt, m.ln, 0, 0, 0)
        unfold MK.rt MK.ln; rw [h1]
  · cases p with
    | nil =>
      obtain ⟨rfl, rfl⟩ := List.cons.inj hp
      obtain rfl := Option.some.inj (hs.symm.trans rfl)
      have rt' := hB.rt
      refine ⟨?_, ⟨?_, fun y => ?_⟩, Or.inl (Or.inr (Or.inl rfl))⟩
      · show (m'.rt + 1, m'.ln, m'.fs, m'.lab, m'.tmp) = (m.rt + 1, m.ln, m.fs, m.lab, m.tmp)
        unfold MK.rt MK.ln MK.fs MK.lab MK.tmp; rw [h1]
      · show uZ m'.fr m'.rt m'.fs = uZ m.fr m.rt m.fs
        rw [h2.1, rt', show m'.fs = m.fs by unfold MK.fs; rw [h1]]
      · show (uZ m'.dn m'.rt (m'.n, m'.V) y).1 = (uZ m.dn m.rt (m.n, m.V) y).1 ∧ ∀ k, 0 ≤ k → k < (uZ m.dn m.rt (m.n, m.V) y).1 → (uZ m'.dn m'.rt (m'.n, m'.V) y).2 k = mpI (Nf y) f ((uZ m.dn m.rt (m.n, m.V) y).2 k) ∧ ((uZ m.dn m.rt (m.n, m.V) y).2 k 0 = 12 → (uZ m.dn m.rt (m.n, m.V) y).2 k 4 < 1000)
        rw [rt']
        by_cases z : y = m.rt
        · rw [z, uZ_eq, uZ_eq]; exact ⟨hB.1.2.1, hB.2.1⟩
        · rw [uZ_ne z, uZ_ne z]; exact h2.2 y
    | cons k2 p2 =>
      obtain ⟨rfl, rfl⟩ := List.cons.inj hp
      have hk : NTg k := hn k (by simp)
      obtain ⟨b1, b2, b3, b4, b5⟩ := BDY.step (rn := rn) hnm hk hB rfl D hs
      refine ⟨b1.1.1, ?_, Or.inr ⟨⟨r.1 ++ p2, (List.append_assoc _ _ _).symm, fun y hy => (List.mem_append.mp hy).elim (ntg_stk hk hs y) (fun z => hn y (List.mem_cons_of_mem _ z))⟩, by rw [b3]; exact b1, by rw [b3]; exact b2⟩⟩
      unfold DNX MK.dn MK.fr at h2 ⊢
      rw [b4, b5]
      exact h2
theorem RLM.run (hnm : ∀ r w, nm r w < 1000) : ∀ (n : Nat) {a : PCf} {m m' : MK}, (RLM Nf f a.1 m m' ∨ a = pF) → RLM Nf f (itr s n a).1 (mkn s nm rn tb1 n a m) (mkn s nm (fun w => f (rn w)) Nf n a m') ∨ itr s n a = pF
  | 0, _, _, _, h => h
  | n + 1, a, m, m', h => by
    show RLM Nf f (itr s n (stp s a)).1 (mkn s nm rn tb1 n (stp s a) (mkt s nm rn tb1 a m)) (mkn s nm (fun w => f (rn w)) Nf n (stp s a) (mkt s nm (fun w => f (rn w)) Nf a m')) ∨ itr s n (stp s a) = pF
    refine RLM.run hnm n ?_
    rcases h with h | h
    · obtain ⟨K0, t, x, q, ρ⟩ := a
      cases K0 with
      | nil => exact Or.inl h
      | cons k K =>
        cases e : stk s k t x q with
        | none => exact Or.inr (stp_none e)
        | some r =>
          rw [mkt_s e, mkt_s e, stp_some e]
          exact Or.inl (h.step hnm e)
    · rw [h, stp_pF]; exact Or.inr rfl
/-- what both made of one text -/
theorem RLM.fin {z z' mz mz' : MK} {a : PCf} {t2 : TK} {x2 : Int × Int × Int} {q2 : QR} {ρ2 : List EV} {b : PCf} (hnm : ∀ r w, nm r w < 1000) (h : RM s nm rn tb1 a z ([], t2, x2, q2, ρ2) mz) (g : RM s nm (fun w => f (rn w)) Nf a z' b mz') (hb : stp s b = b) (eb : ∀ m, mkt s nm (fun w => f (rn w)) Nf b m = m) (r0 : RLM Nf f a.1 z z') : mz'.1 = mz.1 ∧ DNX Nf f mz mz' := by
  obtain ⟨n, h1, h2⟩ := h
  have w := RLM.run (s := s) (rn := rn) hnm n (Or.inl r0)
  rw [h1, h2] at w
  have g2 : RM s nm (fun w => f (rn w)) Nf a z' ([], t2, x2, q2, ρ2) (mkn s nm (fun w => f (rn w)) Nf n a z') := ⟨n, h1, rfl⟩
  have d := RM.det g2 g rfl hb (fun _ => rfl) eb
  rw [d.2] at w
  rcases w with w | w
  · exact ⟨w.1, w.2.1⟩
  · exact absurd (congrArg Prod.fst w) (by show ¬ ([] : List Nat) = [999]; simp)
end RLMS
end
section
def bt (x sh : Int) : Int := (vp_nar .byte ((iI x >>> (iI sh &&& 31)).toInt8.toInt32)).toInt
def w4 (f : Int → Int) (s x : Int) : Int → Int := fun k => if k = s then bt x 24 else if k = s + 1 then bt x 16 else if k = s + 2 then bt x 8 else if k = s + 3 then bt x 0 else f k
end
