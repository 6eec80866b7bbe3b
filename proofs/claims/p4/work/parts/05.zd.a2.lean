/-! the class's reader: what its fields and rows hold -/
/-- a key and a word are of one NAME -/
def KW (v : Int) (w : Int64) : Prop := ∃ l, LTR l ∧ l.length ≤ 6 ∧ v = k5 l ∧ w = Int64.ofInt (w8 l)
theorem KW.rg {v : Int} {w : Int64} (h : KW v w) : 0 ≤ v ∧ v < 1073741824 := by
  obtain ⟨l, a, b, c, d⟩ := h
  have x := k5_0 l a
  have y := k5_b 6 l a b
  rw [show (32 : Int) ^ 6 = 1073741824 by decide] at y
  rw [c]; exact ⟨x, y⟩
theorem KW.eq {v v2 : Int} {w w2 : Int64} (h : KW v w) (g : KW v2 w2) : v = v2 ↔ w = w2 := by
  have r1 := h.rg
  have r2 := g.rg
  obtain ⟨l, a, b, c, d⟩ := h
  obtain ⟨m, a2, b2, c2, d2⟩ := g
  rw [d, d2, ← kw_iff a a2 b b2, ← c, ← c2]
  exact (iI_eq ⟨by omega, by omega⟩ ⟨by omega, by omega⟩).symm
theorem NKY.kw {t : TK} {v : Int} (h : NKY t v) (ht : t.2.2.1 = 2) : KW v t.2.2.2.2 := h ht
/-- the first END or BAD is n -/
def TEN (S : Int → Int) (n : Nat) : Prop := (∀ i : Nat, i < n → ckd (tkS S i) ≠ 263 ∧ ckd (tkS S i) ≠ 264) ∧ (ckd (tkS S n) = 263 ∨ ckd (tkS S n) = 264)
/-- rows of tokens -/
def TRW (σ : MS) (t : Nat) (S : Int → Int) (n : Nat) : Prop := ∀ k u p : Nat, σ.2.1 81 t = (k : Int) → σ.2.1 82 t = (u : Int) → σ.2.1 83 t = (p : Int) → ∀ i : Nat, i ≤ n → σ.2.1 (1000 + k) i = ckd (tkS S i) ∧ NKY (tkS S i) (σ.2.1 (1000 + u) i) ∧ σ.2.1 (1000 + p) i = (tkS S i).1
/-- tokens that stand at j -/
def TKT (σ : MS) (t : Nat) (S : Int → Int) (n j : Nat) : Prop := (j ≤ n ∧ n ≤ 1200 ∧ σ.2.1 84 t = (j : Int)) ∧ (σ.2.1 85 t = ckd (tkS S j) ∧ NKY (tkS S j) (σ.2.1 86 t) ∧ σ.2.1 87 t = (tkS S j).1) ∧ TRW σ t S n ∧ TEN S n
def TKR (σ : MS) (a : Nat) (S : Int → Int) (n j : Nat) : Prop := SB S ∧ ∀ t : Nat, σ.2.1 33 a = (t : Int) → TKT σ t S n j
/-- fault, place, routines, calls, statements -/
def CS0 (σ : MS) (a : Nat) (c : CS) : Prop := (σ.2.1 43 a = c.fp.1 ∧ σ.2.1 44 a = c.fp.2 ∧ σ.2.1 38 a = c.rn ∧ σ.2.1 42 a = c.cn ∧ σ.2.1 45 a = c.m) ∧ (∀ x : Nat, σ.2.1 36 a = (x : Int) → ∀ i, 0 ≤ i → i < c.rn → KW (σ.2.1 (1000 + x) i) (c.rk i)) ∧ (∀ x : Nat, σ.2.1 37 a = (x : Int) → ∀ i, 0 ≤ i → i < c.rn → σ.2.1 (1000 + x) i = c.rp i) ∧ (∀ x : Nat, σ.2.1 39 a = (x : Int) → ∀ i, 0 ≤ i → i < c.cn → KW (σ.2.1 (1000 + x) i) (c.ck i)) ∧ (∀ x : Nat, σ.2.1 40 a = (x : Int) → ∀ i, 0 ≤ i → i < c.cn → σ.2.1 (1000 + x) i = c.cp i) ∧ (∀ x : Nat, σ.2.1 41 a = (x : Int) → ∀ i, 0 ≤ i → i < c.cn → σ.2.1 (1000 + x) i = c.cc i)
/-- the names of the routine under way -/
def NMR (σ : MS) (a : Nat) (c : CS) : Prop := (∀ d : Nat, σ.2.1 35 a = (d : Int) → σ.2.1 7 d = c.nn) ∧ (∀ x : Nat, σ.2.1 48 a = (x : Int) → ∀ i, 0 ≤ i → i < c.nn → KW (σ.2.1 (1000 + x) i) (c.nk i))
def PO (j : Nat) (c : CS) : Prop := 6 * c.cn ≤ (j : Int) ∧ 5 * c.rn ≤ (j : Int) + 5 ∧ 0 ≤ c.m ∧ c.m ≤ (j : Int) + 1
def RD0 (σ : MS) (a : Nat) (S : Int → Int) (n j : Nat) (c : CS) : Prop := TKR σ a S n j ∧ CS0 σ a c ∧ PO j c
def CNT (σ : MS) (a : Nat) (N : Int) : Prop := ∀ d : Nat, σ.2.1 35 a = (d : Int) → σ.2.1 6 d = N
def RDX (σ : MS) (a : Nat) (S : Int → Int) (n j : Nat) (c : CS) (N : Int) : Prop := RD0 σ a S n j c ∧ NMR σ a c ∧ CNT σ a N
/-- a fault 1 -/
def FLC (σ : MS) (a : Nat) (p : Int) : Prop := σ.2.1 43 a = 1 ∧ σ.2.1 44 a = p
abbrev RDL : List Nat := [33, 35, 36, 37, 38, 39, 40, 41, 42, 43, 44, 45, 48, 6, 7, 81, 82, 83, 84, 85, 86, 87]
abbrev RHL : List Nat := [512, 516, 517, 518, 519, 520, 521, 522, 523]
theorem rdl_lt : ∀ k ∈ RDL, k < 200 := by decide
section RDXS
variable {T : CT} {σ τ : MS} {a t n j k d x : Nat} {c : CS} {N z v : Int} {S : Int → Int} {ks : List Nat}
theorem TKT.cg (h : TKT σ t S n j) (hf : ∀ k ∈ [81, 82, 83, 84, 85, 86, 87], τ.2.1 k = σ.2.1 k) (hr : ∀ x : Nat, (σ.2.1 81 t = (x : Int) ∨ σ.2.1 82 t = (x : Int) ∨ σ.2.1 83 t = (x : Int)) → τ.2.1 (1000 + x) = σ.2.1 (1000 + x)) : TKT τ t S n j := by
  obtain ⟨h1, h2, h3, h4⟩ := h
  refine ⟨?_, ?_, fun k u p hk hu hp i hi => ?_, h4⟩
  · rw [hf 84 (by decide)]; exact h1
  · rw [hf 85 (by decide), hf 86 (by decide), hf 87 (by decide)]; exact h2
  · rw [hf 81 (by decide)] at hk
    rw [hf 82 (by decide)] at hu
    rw [hf 83 (by decide)] at hp
    rw [hr k (Or.inl hk), hr u (Or.inr (Or.inl hu)), hr p (Or.inr (Or.inr hp))]
    exact h3 k u p hk hu hp i hi
theorem TKR.cg (h : TKR σ a S n j) (hf : ∀ k ∈ [33, 81, 82, 83, 84, 85, 86, 87], τ.2.1 k = σ.2.1 k) (hr : ∀ t x : Nat, σ.2.1 33 a = (t : Int) → (σ.2.1 81 t = (x : Int) ∨ σ.2.1 82 t = (x : Int) ∨ σ.2.1 83 t = (x : Int)) → τ.2.1 (1000 + x) = σ.2.1 (1000 + x)) : TKR τ a S n j := ⟨h.1, fun t ht => by
  rw [hf 33 (by decide)] at ht
  exact (h.2 t ht).cg (fun k hk => hf k (List.mem_cons_of_mem _ hk)) (fun x hx => hr t x ht hx)⟩
theorem CS0.cg (h : CS0 σ a c) (hf : ∀ k ∈ [36, 37, 38, 39, 40, 41, 42, 43, 44, 45], τ.2.1 k = σ.2.1 k) (hr : ∀ k ∈ [36, 37, 39, 40, 41], ∀ x : Nat, σ.2.1 k a = (x : Int) → τ.2.1 (1000 + x) = σ.2.1 (1000 + x)) : CS0 τ a c := by
  obtain ⟨h1, h2, h3, h4, h5, h6⟩ := h
  refine ⟨?_, fun x q => ?_, fun x q => ?_, fun x q => ?_, fun x q => ?_, fun x q => ?_⟩
  · rw [hf 43 (by decide), hf 44 (by decide), hf 38 (by decide), hf 42 (by decide), hf 45 (by decide)]; exact h1
  · rw [hf 36 (by decide)] at q; rw [hr 36 (by decide) x q]; exact h2 x q
  · rw [hf 37 (by decide)] at q; rw [hr 37 (by decide) x q]; exact h3 x q
  · rw [hf 39 (by decide)] at q; rw [hr 39 (by decide) x q]; exact h4 x q
  · rw [hf 40 (by decide)] at q; rw [hr 40 (by decide) x q]; exact h5 x q
  · rw [hf 41 (by decide)] at q; rw [hr 41 (by decide) x q]; exact h6 x q
theorem NMR.cg (h : NMR σ a c) (hf : ∀ k ∈ [35, 7, 48], τ.2.1 k = σ.2.1 k) (hr : ∀ x : Nat, σ.2.1 48 a = (x : Int) → τ.2.1 (1000 + x) = σ.2.1 (1000 + x)) : NMR τ a c := by
  refine ⟨fun d q => ?_, fun x q => ?_⟩
  · rw [hf 35 (by decide)] at q; rw [hf 7 (by decide)]; exact h.1 d q
  · rw [hf 48 (by decide)] at q; rw [hr x q]; exact h.2 x q
theorem CNT.cg (h : CNT σ a N) (h1 : τ.2.1 35 = σ.2.1 35) (h2 : τ.2.1 6 = σ.2.1 6) : CNT τ a N := fun d q => by rw [h1] at q; rw [h2]; exact h d q
/-- a hidden row stays -/
theorem row_f {q lo hi : Nat} (f : FrC T ks σ τ) (hy : ∃ y : Nat, σ.2.1 k a = (y : Int) ∧ AR T y q lo hi) (hq : HT q) (hn : 500 + q ∉ ks) (hx : σ.2.1 k a = (x : Int)) : τ.2.1 (1000 + x) = σ.2.1 (1000 + x) := by
  obtain ⟨y, h1, h2, -⟩ := hy
  have e : x = y := by omega
  rw [e]
  exact f.2 y (by rw [h2]; exact hq) (by rw [h2]; exact hn)
theorem rows5 (hw : WT T σ) (ha : OB T a 5) (f : FrC T ks σ τ) (h16 : 516 ∉ ks) (h17 : 517 ∉ ks) (h18 : 518 ∉ ks) (h19 : 519 ∉ ks) (h20 : 520 ∉ ks) : ∀ k ∈ [36, 37, 39, 40, 41], ∀ x : Nat, σ.2.1 k a = (x : Int) → τ.2.1 (1000 + x) = σ.2.1 (1000 + x) := fun k hk x hx => by
  simp only [List.mem_cons, List.not_mem_nil, or_false] at hk
  rcases hk with rfl | rfl | rfl | rfl | rfl
  · exact row_f f (wf_36 hw ha) (by unfold HT; omega) h16 hx
  · exact row_f f (wf_37 hw ha) (by unfold HT; omega) h17 hx
  · exact row_f f (wf_39 hw ha) (by unfold HT; omega) h18 hx
  · exact row_f f (wf_40 hw ha) (by unfold HT; omega) h19 hx
  · exact row_f f (wf_41 hw ha) (by unfold HT; omega) h20 hx
theorem rowsT (hw : WT T σ) (ht : OB T t 9) (f : FrC T ks σ τ) (h12 : 512 ∉ ks) (h22 : 522 ∉ ks) (h23 : 523 ∉ ks) : ∀ x : Nat, (σ.2.1 81 t = (x : Int) ∨ σ.2.1 82 t = (x : Int) ∨ σ.2.1 83 t = (x : Int)) → τ.2.1 (1000 + x) = σ.2.1 (1000 + x) := fun x hx => by
  rcases hx with hx | hx | hx
  · exact row_f f (wf_81 hw ht) (by unfold HT; omega) h12 hx
  · exact row_f f (wf_82 hw ht) (by unfold HT; omega) h22 hx
  · exact row_f f (wf_83 hw ht) (by unfold HT; omega) h23 hx
theorem tok_ob (hw : WT T σ) (ha : OB T a 5) (ht : σ.2.1 33 a = (t : Int)) : OB T t 9 := by
  obtain ⟨y, h1, h2⟩ := wf_33 hw ha
  have e : t = y := by omega
  rw [e]; exact ⟨by omega, by rw [h2]; rfl, by omega⟩
theorem code_ob (hw : WT T σ) (ha : OB T a 5) (ht : σ.2.1 35 a = (t : Int)) : OB T t 1 := by
  obtain ⟨y, h1, h2⟩ := wf_35 hw ha
  have e : t = y := by omega
  rw [e]; exact ⟨by omega, by rw [h2]; rfl, by omega⟩
theorem TKR.fc (h : TKR σ a S n j) (hw : WT T σ) (ha : OB T a 5) (f : FrC T ks σ τ) (hk : ∀ k ∈ [33, 81, 82, 83, 84, 85, 86, 87], k ∉ ks) (hr : ∀ k ∈ [512, 522, 523], k ∉ ks) : TKR τ a S n j := h.cg (fun k q => f.1 k (Or.inl ((by decide : ∀ k ∈ [33, 81, 82, 83, 84, 85, 86, 87], k < 200) k q)) (hk k q)) (fun t x ht => rowsT hw (tok_ob hw ha ht) f (hr 512 (by decide)) (hr 522 (by decide)) (hr 523 (by decide)) x)
theorem CS0.fc (h : CS0 σ a c) (hw : WT T σ) (ha : OB T a 5) (f : FrC T ks σ τ) (hk : ∀ k ∈ [36, 37, 38, 39, 40, 41, 42, 43, 44, 45], k ∉ ks) (hr : ∀ k ∈ [516, 517, 518, 519, 520], k ∉ ks) : CS0 τ a c := h.cg (fun k q => f.1 k (Or.inl ((by decide : ∀ k ∈ [36, 37, 38, 39, 40, 41, 42, 43, 44, 45], k < 200) k q)) (hk k q)) (rows5 hw ha f (hr 516 (by decide)) (hr 517 (by decide)) (hr 518 (by decide)) (hr 519 (by decide)) (hr 520 (by decide)))
theorem NMR.fc (h : NMR σ a c) (hw : WT T σ) (ha : OB T a 5) (f : FrC T ks σ τ) (hk : ∀ k ∈ [35, 7, 48], k ∉ ks) (hr : 521 ∉ ks) : NMR τ a c := h.cg (fun k q => f.1 k (Or.inl ((by decide : ∀ k ∈ [35, 7, 48], k < 200) k q)) (hk k q)) (fun x hx => row_f f (wf_48 hw ha) (by unfold HT; omega) hr hx)
theorem CNT.fc (h : CNT σ a N) (f : FrC T ks σ τ) (h1 : 35 ∉ ks) (h2 : 6 ∉ ks) : CNT τ a N := h.cg (f.1 35 (Or.inl (by decide)) h1) (f.1 6 (Or.inl (by decide)) h2)
theorem RD0.fc (h : RD0 σ a S n j c) (hw : WT T σ) (ha : OB T a 5) (f : FrC T ks σ τ) (hk : ∀ k ∈ RDL, k ∉ [6, 7, 35, 48] → k ∉ ks) (hr : ∀ k ∈ RHL, k ≠ 521 → k ∉ ks) : RD0 τ a S n j c := ⟨h.1.fc hw ha f (fun k q => hk k ((by decide : ∀ k ∈ [33, 81, 82, 83, 84, 85, 86, 87], k ∈ RDL) k q) ((by decide : ∀ k ∈ [33, 81, 82, 83, 84, 85, 86, 87], k ∉ [6, 7, 35, 48]) k q)) (fun k q => hr k ((by decide : ∀ k ∈ [512, 522, 523], k ∈ RHL) k q) ((by decide : ∀ k ∈ [512, 522, 523], k ≠ 521) k q)), h.2.1.fc hw ha f (fun k q => hk k ((by decide : ∀ k ∈ [36, 37, 38, 39, 40, 41, 42, 43, 44, 45], k ∈ RDL) k q) ((by decide : ∀ k ∈ [36, 37, 38, 39, 40, 41, 42, 43, 44, 45], k ∉ [6, 7, 35, 48]) k q)) (fun k q => hr k ((by decide : ∀ k ∈ [516, 517, 518, 519, 520], k ∈ RHL) k q) ((by decide : ∀ k ∈ [516, 517, 518, 519, 520], k ≠ 521) k q)), h.2.2⟩
/-- a call that writes nothing of it -/
theorem RDX.fc (h : RDX σ a S n j c N) (hw : WT T σ) (ha : OB T a 5) (f : FrC T ks σ τ) (hk : ∀ k ∈ RDL, k ∉ ks) (hr : ∀ k ∈ RHL, k ∉ ks) : RDX τ a S n j c N := ⟨h.1.fc hw ha f (fun k q _ => hk k q) (fun k q _ => hr k q), h.2.1.fc hw ha f (fun k q => hk k ((by decide : ∀ k ∈ [35, 7, 48], k ∈ RDL) k q)) (hr 521 (by decide)), h.2.2.fc f (hk 35 (by decide)) (hk 6 (by decide))⟩
/-- a field of no matter -/
theorem RDX.pt (h : RDX σ a S n j c N) (hk : k ∉ RDL) (h2 : k < 200) : RDX (sA k z v σ) a S n j c N := by
  have e : ∀ m ∈ RDL, (sA k z v σ).2.1 m = σ.2.1 m := fun m q => sA_k (fun w => hk (w ▸ q))
  have r : ∀ x : Nat, (sA k z v σ).2.1 (1000 + x) = σ.2.1 (1000 + x) := fun x => sA_k (by omega)
  exact ⟨⟨h.1.1.cg (fun m q => e m ((by decide : ∀ k ∈ [33, 81, 82, 83, 84, 85, 86, 87], k ∈ RDL) m q)) (fun _ x _ _ => r x), h.1.2.1.cg (fun m q => e m ((by decide : ∀ k ∈ [36, 37, 38, 39, 40, 41, 42, 43, 44, 45], k ∈ RDL) m q)) (fun _ _ x _ => r x), h.1.2.2⟩, h.2.1.cg (fun m q => e m ((by decide : ∀ k ∈ [35, 7, 48], k ∈ RDL) m q)) (fun x _ => r x), h.2.2.cg (e 35 (by decide)) (e 6 (by decide))⟩
abbrev RD0L : List Nat := [33, 36, 37, 38, 39, 40, 41, 42, 43, 44, 45, 81, 82, 83, 84, 85, 86, 87]
theorem RD0.pt (h : RD0 σ a S n j c) (hk : k ∉ RD0L) (h2 : k < 200) : RD0 (sA k z v σ) a S n j c := by
  have e : ∀ m ∈ RD0L, (sA k z v σ).2.1 m = σ.2.1 m := fun m q => sA_k (fun w => hk (w ▸ q))
  have r : ∀ x : Nat, (sA k z v σ).2.1 (1000 + x) = σ.2.1 (1000 + x) := fun x => sA_k (by omega)
  exact ⟨h.1.cg (fun m q => e m ((by decide : ∀ k ∈ [33, 81, 82, 83, 84, 85, 86, 87], k ∈ RD0L) m q)) (fun _ x _ _ => r x), h.2.1.cg (fun m q => e m ((by decide : ∀ k ∈ [36, 37, 38, 39, 40, 41, 42, 43, 44, 45], k ∈ RD0L) m q)) (fun _ _ x _ => r x), h.2.2⟩
theorem TRW.pt (h : TRW σ t S n) (hk : k ≠ 81 ∧ k ≠ 82 ∧ k ≠ 83 ∧ k < 200) : TRW (sA k z v σ) t S n := fun x u p h1 h2 h3 i hi => by
  rw [sA_k (by omega)] at h1
  rw [sA_k (by omega)] at h2
  rw [sA_k (by omega)] at h3
  rw [sA_k (by omega), sA_k (by omega), sA_k (by omega)]
  exact h x u p h1 h2 h3 i hi
theorem TKR.pt (h : TKR σ a S n j) (hk : k ∉ [33, 81, 82, 83, 84, 85, 86, 87]) (h2 : k < 200) : TKR (sA k z v σ) a S n j := h.cg (fun m q => sA_k (fun w => hk (w ▸ q))) (fun _ x _ _ => sA_k (by omega))
theorem RD0.tk (h : RD0 σ a S n j c) (ht : σ.2.1 33 a = (t : Int)) : TKT σ t S n j := h.1.2 t ht
theorem RD0.kd (h : RD0 σ a S n j c) (ht : σ.2.1 33 a = (t : Int)) : σ.2.1 85 t = ckd (tkS S j) := (h.tk ht).2.1.1
theorem RD0.ky (h : RD0 σ a S n j c) (ht : σ.2.1 33 a = (t : Int)) : NKY (tkS S j) (σ.2.1 86 t) := (h.tk ht).2.1.2.1
theorem RD0.pl (h : RD0 σ a S n j c) (ht : σ.2.1 33 a = (t : Int)) : σ.2.1 87 t = (tkS S j).1 := (h.tk ht).2.1.2.2
theorem RD0.sb (h : RD0 σ a S n j c) : SB S := h.1.1
theorem RD0.jn (h : RD0 σ a S n j c) (hw : WT T σ) (ha : OB T a 5) : (j : Int) ≤ n ∧ (n : Int) ≤ 1200 := by
  obtain ⟨t, ht, -⟩ := wf_33 hw ha
  have q := (h.tk ht).1
  omega
theorem RDX.jn (h : RDX σ a S n j c N) (hw : WT T σ) (ha : OB T a 5) : (j : Int) ≤ n ∧ (n : Int) ≤ 1200 := h.1.jn hw ha
theorem RDX.nq {M : Int} (h : RDX σ a S n j c N) (e : N = M) : RDX σ a S n j c M := by rw [← e]; exact h
theorem RDX.cq {c2 : CS} (h : RDX σ a S n j c N) (e : c = c2) : RDX σ a S n j c2 N := by rw [← e]; exact h
/-- the next token -/
theorem RD0.nx (h : RD0 σ a S n j c) (hw : WT T σ) (ha : OB T a 5) (ht : σ.2.1 33 a = (t : Int)) (f : FrC T [84, 85, 86, 87] σ τ) (q : TKT τ t S n (j + 1)) : RD0 τ a S n (j + 1) c := by
  refine ⟨⟨h.1.1, fun t2 ht2 => ?_⟩, h.2.1.fc hw ha f (by decide) (by decide), ?_⟩
  · rw [f.1 33 (Or.inl (by decide)) (by decide)] at ht2
    have e : t2 = t := by omega
    rw [e]; exact q
  · have w := h.2.2
    unfold PO at w ⊢
    omega
theorem RDX.nx (h : RDX σ a S n j c N) (hw : WT T σ) (ha : OB T a 5) (ht : σ.2.1 33 a = (t : Int)) (f : FrC T [84, 85, 86, 87] σ τ) (q : TKT τ t S n (j + 1)) : RDX τ a S n (j + 1) c N := ⟨h.1.nx hw ha ht f q, h.2.1.fc hw ha f (by decide) (by decide), h.2.2.fc f (by decide) (by decide)⟩
/-- an item more -/
theorem RDX.ap (h : RDX σ a S n j c N) (hw : WT T σ) (ha : OB T a 5) (hc : σ.2.1 35 a = (d : Int)) (f : FrC T [5, 6] σ τ) (h6 : τ.2.1 6 d = σ.2.1 6 d + 1) : RDX τ a S n j c (N + 1) := ⟨h.1.fc hw ha f (by decide) (by decide), h.2.1.fc hw ha f (by decide) (by decide), fun d2 q => by
  rw [f.1 35 (Or.inl (by decide)) (by decide)] at q
  have e : d2 = d := by omega
  rw [e, h6, h.2.2 d hc]⟩
end RDXS
/-- how the fault is noted -/
def NTQ (σ τ : MS) (a : Nat) (f p : Int) : Prop := (τ.2.1 43 a, τ.2.1 44 a) = cntN f p (σ.2.1 43 a, σ.2.1 44 a)
def fpC (x : FP) (c : CS) : CS := CS.mk x c.rn c.rk c.rp c.cn c.ck c.cp c.cc c.nn c.nk c.m
section NTS
variable {T : CT} {σ τ : MS} {a n j : Nat} {c : CS} {N f p : Int} {S : Int → Int}
theorem CS0.fp2 (h : CS0 σ a c) : (σ.2.1 43 a, σ.2.1 44 a) = c.fp := by rw [h.1.1, h.1.2.1]
theorem RD0.nt (h : RD0 σ a S n j c) (hw : WT T σ) (ha : OB T a 5) (fr : FrC T [43, 44] σ τ) (q : NTQ σ τ a f p) : RD0 τ a S n j (fpC (cntN f p c.fp) c) := by
  obtain ⟨h1, h2, h3⟩ := h
  refine ⟨h1.fc hw ha fr (by decide) (by decide), ?_, h3⟩
  unfold NTQ at q
  rw [h2.fp2] at q
  have q1 : τ.2.1 43 a = (cntN f p c.fp).1 := congrArg Prod.fst q
  have q2 : τ.2.1 44 a = (cntN f p c.fp).2 := congrArg Prod.snd q
  have g : ∀ k ∈ [36, 37, 38, 39, 40, 41, 42, 45], τ.2.1 k = σ.2.1 k := fun k w => fr.1 k (Or.inl ((by decide : ∀ k ∈ [36, 37, 38, 39, 40, 41, 42, 45], k < 200) k w)) ((by decide : ∀ k ∈ [36, 37, 38, 39, 40, 41, 42, 45], k ∉ [43, 44]) k w)
  have r := rows5 hw ha fr (by decide) (by decide) (by decide) (by decide) (by decide)
  obtain ⟨⟨_, _, e3, e4, e5⟩, k2, k3, k4, k5, k6⟩ := h2
  refine ⟨⟨q1, q2, by rw [g 38 (by decide)]; exact e3, by rw [g 42 (by decide)]; exact e4, by rw [g 45 (by decide)]; exact e5⟩, fun x w => ?_, fun x w => ?_, fun x w => ?_, fun x w => ?_, fun x w => ?_⟩
  · rw [g 36 (by decide)] at w; rw [r 36 (by decide) x w]; exact k2 x w
  · rw [g 37 (by decide)] at w; rw [r 37 (by decide) x w]; exact k3 x w
  · rw [g 39 (by decide)] at w; rw [r 39 (by decide) x w]; exact k4 x w
  · rw [g 40 (by decide)] at w; rw [r 40 (by decide) x w]; exact k5 x w
  · rw [g 41 (by decide)] at w; rw [r 41 (by decide) x w]; exact k6 x w
theorem RDX.nt (h : RDX σ a S n j c N) (hw : WT T σ) (ha : OB T a 5) (fr : FrC T [43, 44] σ τ) (q : NTQ σ τ a f p) : RDX τ a S n j (fpC (cntN f p c.fp) c) N := ⟨h.1.nt hw ha fr q, h.2.1.fc hw ha fr (by decide) (by decide), h.2.2.fc fr (by decide) (by decide)⟩
end NTS

