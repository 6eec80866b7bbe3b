section
theorem upR_27 (A : MS) (e : EW) (h : A.1 25 = 0) : (upR A e).1 27 = A.1 27 := by
  have h1 : ¬ A.1 25 = 1 := by omega
  have h2 : ¬ A.1 25 = 2 := by omega
  unfold upR
  split
  · unfold rnP; rw [ifP_f h1]
  split
  · unfold paP; rw [ifP_f h1]
  split
  · unfold peP; rw [ifP_f h1]
  split
  · unfold nmP
    rw [ntP_0 h, ifP_f h1]
    by_cases c1 : A.1 30 < 6
    · rw [ifP_t c1]
      by_cases c2 : NFD A e.2.2.2
      · rw [ifP_t c2]
      · rw [ifP_f c2]
        by_cases c3 : A.2.1 35 (A.1 30) = 12
        · rw [ifP_t c3]
        · rw [ifP_f c3]
    · rw [ifP_f c1]
  split
  · unfold lnP
    split
    · rw [ntP_0 (show (sS 31 (A.1 31 + 1) A).1 25 = 0 from h)]; rfl
    · rfl
  split
  · unfold clP; rw [ifP_f h2]
  split
  · unfold reP; rw [if_neg (by omega)]; rfl
  rfl
theorem fold_27 (es : List EW) (A : MS) (h : A.1 25 = 0) : (es.foldl upR A).1 27 = A.1 27 := by
  induction es generalizing A with
  | nil => rfl
  | cons e es ih => rw [List.foldl_cons, ih _ (by rw [upR_25]; exact h), upR_27 A e h]
theorem EFF.p27 {es : List EW} {σ τ : MS} (h : EFF es σ τ) (h0 : σ.1 25 = 0) : τ.1 27 = σ.1 27 := (srt_27 (h σ rfl)).symm.trans (fold_27 es σ h0)
theorem absR_srt {A B : MS} (h : srt A = srt B) : absR A = absR B := by
  unfold absR
  rw [srt_25 h, srt_26 h, srt_27 h, srt_30 h, srt_31 h, srt_43 h, srt_44 h, srt_45 h, srt_35 h, srt_38 h]
theorem EFF.ab {es : List EW} {A τ : MS} (h : EFF es A τ) (h0 : 0 < A.1 25) : absR τ = es.foldl uR (absR A) := by
  rw [← abs_fold es h0]
  exact (absR_srt (h A rfl)).symm
def FZ (A : MS) : Prop := A.1 26 = 0 → A.1 27 = -1
theorem ntP_z {f p : Int} {A : MS} (h : FZ A) (hf : f ≠ 0) : FZ (ntP f p A) := by
  unfold ntP
  split
  · exact fun q => absurd (show f = 0 from q) hf
  · exact h
theorem ifz {p : Prop} {a b : MS} (h1 : FZ a) (h2 : FZ b) : FZ (ifP p a b) := by
  by_cases c : p
  · rw [ifP_t c]; exact h1
  · rw [ifP_f c]; exact h2
theorem nmP_z {w : Int64} {p : Int} {B : MS} (h : FZ B) : FZ (nmP w p B) := by
  unfold nmP
  exact ifz (ifz h (ifz (ntP_z h (by decide)) (ifz h h))) h
theorem upR_z {A : MS} (h : FZ A) (e : EW) : FZ (upR A e) := by
  unfold upR
  split
  · unfold rnP
    refine ifz ?_ h
    have q : FZ (ifP (A.1 30 = 6) (ntP 5 e.2.1 A) A) := ifz (ntP_z h (by decide)) h
    have w : FZ (ifP (∃ q, RFD A e.2.2.2 q) (ntP 2 e.2.1 (ifP (A.1 30 = 6) (ntP 5 e.2.1 A) A)) (ifP (A.1 30 = 6) (ntP 5 e.2.1 A) A)) := ifz (ntP_z q (by decide)) q
    exact w
  split
  · unfold paP
    refine ifz (nmP_z ?_) h
    have q : FZ (ifP (e.2.2.1 = 4) (ntP 5 e.2.1 A) A) := ifz (ntP_z h (by decide)) h
    exact ifz (ntP_z q (by decide)) q
  split
  · unfold peP
    exact ifz (ifz h h) h
  split
  · exact nmP_z h
  split
  · unfold lnP
    split
    · exact ntP_z (show FZ (sS 31 (A.1 31 + 1) A) from h) (by decide)
    · exact h
  split
  · unfold clP
    exact ifz (ifz (ifz (ntP_z h (by decide)) h) (ntP_z h (by decide))) h
  split
  · unfold reP
    split
    · exact (show FZ (ntP 5 e.2.1 A) from ntP_z h (by decide))
    · exact h
  exact h
theorem fold_z : ∀ (es : List EW) {A : MS}, FZ A → FZ (es.foldl upR A)
  | [], _, h => h
  | e :: es, _, h => fold_z es (upR_z h e)
theorem EFF.fz {es : List EW} {A τ : MS} (h : EFF es A τ) (hz : FZ A) : FZ τ := fun q => by
  have w := h A rfl
  have z := fold_z es hz
  rw [← srt_27 w]
  exact z (by rw [srt_26 w]; exact q)
noncomputable def RA9 (c : CS) : FP := cnts (cSs c c.cn.toNat) c.fp
def RQ9 (S : Int → Int) (v f p r0 r : Int) : Prop := (∃ es pl, RE S ([36], advT S 0, (0, 0, 0), qq 0, []) (es ++ [(9, pl, 0, 0)]) pF ∧ v = -1 ∧ f = 1 ∧ p = pl ∧ r = r0) ∨ ∃ es t x q ρ, RE S ([36], advT S 0, (0, 0, 0), qq 0, []) es ([], t, x, q, ρ) ∧ f = (RA9 (es.foldl uC c00)).1 ∧ (f = 0 → v = (if (es.foldl uC c00).rn ≤ 6 then (es.foldl uC c00).rn else 6) ∧ p = -1 ∧ r = v) ∧ (f ≠ 0 → v = -1 ∧ p = (RA9 (es.foldl uC c00)).2 ∧ r = r0)
theorem RQ9.one {S : Int → Int} {v f p r0 r v' f' p' r' : Int} (h : RQ9 S v f p r0 r) (g : RQ9 S v' f' p' r0 r') : v = v' ∧ f = f' ∧ p = p' ∧ r = r' := by
  rcases h with ⟨es, pl, h1, h2, h3, h4, h5⟩ | ⟨es, t, x, q, ρ, h1, h2, h3, h4⟩
  · rcases g with ⟨es', pl', g1, g2, g3, g4, g5⟩ | ⟨es', t', x', q', ρ', g1, g2, g3, g4⟩
    · have w := (RE.det h1 g1 (stp_pF _) (stp_pF _) evt_pF evt_pF).2
      have e := List.append_inj_right' w rfl
      have e2 : pl = pl' := by
        have := (List.cons.inj e).1
        exact congrArg (fun z : EW => z.2.1) this
      omega
    · have w := (RE.det h1 g1 (stp_pF _) rfl evt_pF rfl).1
      exact absurd (show ([999] : List Nat) = [] from congrArg Prod.fst w) (by decide)
  · rcases g with ⟨es', pl', g1, g2, g3, g4, g5⟩ | ⟨es', t', x', q', ρ', g1, g2, g3, g4⟩
    · have w := (RE.det h1 g1 rfl (stp_pF _) rfl evt_pF).1
      exact absurd (show ([] : List Nat) = [999] from congrArg Prod.fst w) (by decide)
    · have w := (RE.det h1 g1 rfl rfl rfl rfl).2
      rw [← w] at g2 g3 g4
      have ef : f = f' := h2.trans g2.symm
      subst ef
      by_cases z : f = 0
      · obtain ⟨a1, a2, a3⟩ := h3 z
        obtain ⟨b1, b2, b3⟩ := g3 z
        exact ⟨a1.trans b1.symm, rfl, a2.trans b2.symm, by rw [a3, b3, a1, b1]⟩
      · obtain ⟨a1, a2, a3⟩ := h4 z
        obtain ⟨b1, b2, b3⟩ := g4 z
        exact ⟨a1.trans b1.symm, rfl, a2.trans b2.symm, a3.trans b3.symm⟩
theorem RM9 {σ0 σa σb σc : MS} (hl : σ0.1 21 ≤ 1200) (h26 : σ0.1 26 = 0) (h27 : σ0.1 27 = -1) (sa : sv σa = sv σ0) (sb : sv σb = sv σ0) (ga : GQ1 0 σ0 σa) (gb : GQ1 1 σa σb) (gc : GQ1 2 σb σc) : ∃ es t x q ρ, RE (sv σ0) ([36], advT (sv σ0) 0, (0, 0, 0), qq 0, []) es ([], t, x, q, ρ) ∧ (σc.1 26, σc.1 27) = RA9 (es.foldl uC c00) ∧ σc.1 30 = (es.foldl uC c00).rn ∧ FZ σc := by
  obtain ⟨t0, x0, l0, es, ⟨r0, A0, i0, f0⟩, -⟩ := ga
  obtain ⟨t1, x1, l1, e1, ⟨r1, A1, i1, f1⟩, -⟩ := gb
  obtain ⟨t2, x2, l2, e2, ⟨r2, A2, i2, f2⟩, -⟩ := gc
  rw [sa] at r1
  rw [sb] at r2
  have d1 : e1 = es := (RE.det r1 r0 rfl rfl rfl rfl).2
  have d2 : e2 = es := (RE.det r2 r0 rfl rfl rfl rfl).2
  subst d1
  subst d2
  have hS : SEN (sv σ0) := fun k hk => by
    unfold sv
    rw [if_neg (by omega)]; decide
  have a26 : σa.1 26 = 0 := (f0.p26 i0.1.1).trans (i0.1.2.1.trans h26)
  have a27 : σa.1 27 = -1 := (f0.p27 i0.1.1).trans (i0.1.2.2.1.trans h27)
  have b1 := f1.ab (by rw [i1.1.1]; decide)
  have b2 := f2.ab (by rw [i2.1.1]; decide)
  have w1 := i1.2.1 rfl
  have w2 := i2.2.2.1 (by decide)
  have k := READERS (es := e2) (r := absR A1) (b := absR A2) (c := c00) (RE.shp hS r0) i1.1.1 (show (A1.1 26, A1.1 27) = ((0, -1) : FP) by rw [i1.1.2.1, i1.1.2.2.1, a26, a27]) i1.1.2.2.2.1 i1.1.2.2.2.2 w1.1 w1.2 rfl rfl rfl (by decide) rfl i2.1.1
    (by rw [← b1]; show (A2.1 26, A2.1 27) = (σb.1 26, σb.1 27); rw [i2.1.2.1, i2.1.2.2.1]) i2.1.2.2.2.1 i2.1.2.2.2.2 (by rw [← b1]; exact w2.1) (by rw [← b1]; exact i2.2.2.2.2.2) (by rw [← b1]; exact i2.2.2.2.1) (by rw [← b1]; exact w2.2) (by rw [← b1]; exact i2.2.2.2.2.1)
  rw [← b2] at k
  have zb : FZ σb := f1.fz (fun q => by rw [i1.1.2.2.1]; exact a27)
  have zc : FZ σc := f2.fz (fun q => by rw [i2.1.2.2.1]; exact zb (by rw [← i2.1.2.1]; exact q))
  exact ⟨e2, t0, x0, qq 0, l0, r0, k.1, k.2, zc⟩
theorem RM9.fl {σ0 σa : MS} {r0 : Int} (h26 : σ0.1 26 = 0) (g : GFL (sS 25 0 σ0) σa) : RQ9 (sv σ0) (-1) (σa.1 26) (σa.1 27) r0 r0 := by
  obtain ⟨es, p, h1, h2⟩ := g
  obtain ⟨q1, q2⟩ := h2 rfl h26
  exact Or.inl ⟨es, p, h1, rfl, q1, q2, rfl⟩
theorem GQ1.nofl {w w2 : Int} {σ0 σa σ1 σb : MS} (ga : GQ1 w σ0 σa) (e : sv σ1 = sv σ0) (g : GFL (sS 25 w2 σ1) σb) : False := by
  obtain ⟨t0, x0, l0, es, ⟨r0, -⟩, -⟩ := ga
  obtain ⟨e2, p, h1, -⟩ := g
  have h1' : RE (sv σ1) (GST (sv σ1)) (e2 ++ [(9, p, 0, 0)]) pF := h1
  rw [e] at h1'
  have w := (RE.det h1' r0 (stp_pF _) rfl evt_pF rfl).1
  exact absurd (show ([999] : List Nat) = [] from congrArg Prod.fst w) (by decide)
theorem RM9.bad {σ0 σa σb σc : MS} {r0 : Int} (hl : σ0.1 21 ≤ 1200) (h26 : σ0.1 26 = 0) (h27 : σ0.1 27 = -1) (sa : sv σa = sv σ0) (sb : sv σb = sv σ0) (ga : GQ1 0 σ0 σa) (gb : GQ1 1 σa σb) (gc : GQ1 2 σb σc) (hf : σc.1 26 ≠ 0) : RQ9 (sv σ0) (-1) (σc.1 26) (σc.1 27) r0 r0 := by
  obtain ⟨es, t, x, q, ρ, k1, k2, k3, k4⟩ := RM9 hl h26 h27 sa sb ga gb gc
  exact Or.inr ⟨es, t, x, q, ρ, k1, congrArg Prod.fst k2, fun z => absurd z hf, fun _ => ⟨rfl, congrArg Prod.snd k2, rfl⟩⟩
theorem RM9.good {σ0 σa σb σc : MS} {r0 r p : Int} (hl : σ0.1 21 ≤ 1200) (h26 : σ0.1 26 = 0) (h27 : σ0.1 27 = -1) (sa : sv σa = sv σ0) (sb : sv σb = sv σ0) (ga : GQ1 0 σ0 σa) (gb : GQ1 1 σa σb) (gc : GQ1 2 σb σc) (hf : σc.1 26 = 0) (hr : r = σc.1 30) (h6 : σc.1 30 ≤ 6) (hp : p = σc.1 27) : RQ9 (sv σ0) r (σc.1 26) p r0 r := by
  obtain ⟨es, t, x, q, ρ, k1, k2, k3, k4⟩ := RM9 hl h26 h27 sa sb ga gb gc
  refine Or.inr ⟨es, t, x, q, ρ, k1, congrArg Prod.fst k2, fun _ => ⟨?_, hp.trans (k4 hf), rfl⟩, fun z => absurd hf z⟩
  rw [← k3, if_pos h6]; exact hr
theorem cntN_z {f p : Int} {a : FP} (hf : f ≠ 0) (h : (cntN f p a).1 = 0) : False := by
  unfold cntN at h
  by_cases c : a.1 = 0 ∨ p < a.2 ∨ (p = a.2 ∧ f < a.1)
  · rw [if_pos c] at h; exact hf h
  · rw [if_neg c] at h; exact c (Or.inl h)
theorem cnts_z : ∀ (M : List NT) {a : FP}, (∀ n ∈ M, n.2 ≠ 0) → (cnts M a).1 = 0 → M = [] ∧ a.1 = 0
  | [], _, _, h => ⟨rfl, h⟩
  | n :: M, a, g, h => by
    have q := cnts_z M (a := cntN n.2 n.1 a) (fun m w => g m (List.mem_cons_of_mem _ w)) h
    exact (cntN_z (g n List.mem_cons_self) q.2).elim
def N3 (r b : RS) : Prop := r.ph = 2 ∧ b.ph = 3 ∧ r.rt = b.rt ∧ r.ln = b.ln ∧ r.nn = b.nn ∧ r.nw = b.nw
theorem nNm_3 {r b : RS} (h : N3 r b) (w : Int64) (p : Int) : nNm b w p = nNm r w p := by
  unfold nNm fndN
  rw [h.2.2.1, h.2.2.2.2.1, h.2.2.2.2.2]
theorem sNm_3 {r : RS} (h : r.ph ≠ 1) (w : Int64) : sNm r w = r := by
  unfold sNm
  rw [ifP_f (fun q => h q.1)]
theorem ifP_nz {p : Prop} {l m : List NT} (h : ∀ n ∈ l, n.2 ≠ 0) (g : ∀ n ∈ m, n.2 ≠ 0) : ∀ n ∈ ifP p l m, n.2 ≠ 0 := by
  by_cases c : p
  · rw [ifP_t c]; exact h
  · rw [ifP_f c]; exact g
theorem one_nz {p f : Int} (h : f ≠ 0) : ∀ n ∈ ([(p, f)] : List NT), n.2 ≠ 0 := fun n q => by
  rw [List.mem_singleton.mp q]; exact h
theorem nil_nz : ∀ n ∈ ([] : List NT), n.2 ≠ 0 := fun n q => absurd q (by simp)
theorem nRf_nz {r : RS} (h : r.ph = 2) (e : EW) : ∀ n ∈ nRf r e, n.2 ≠ 0 := by
  have h1 : ¬ r.ph = 1 := by omega
  unfold nRf
  split
  · unfold nRn; rw [ifP_f h1]; exact nil_nz
  split
  · unfold nPa; rw [ifP_f h1]; exact nil_nz
  split
  · exact nil_nz
  split
  · unfold nNm; exact ifP_nz (one_nz (by decide)) nil_nz
  split
  · exact ifP_nz (one_nz (by decide)) nil_nz
  split
  · unfold nCl; exact ifP_nz (ifP_nz (ifP_nz (one_nz (by decide)) nil_nz) (one_nz (by decide))) nil_nz
  split
  · exact ifP_nz (one_nz (by decide)) nil_nz
  exact nil_nz
theorem nRf_3 {r b : RS} (h : N3 r b) (e : EW) (g : nRf r e = []) : nRf b e = [] := by
  have h1 : ¬ b.ph = 1 := by have := h.2.1; omega
  have h2 : ¬ b.ph = 2 := by have := h.2.1; omega
  unfold nRf at g ⊢
  by_cases c2 : e.1 = 2
  · rw [if_pos c2]; unfold nRn; rw [ifP_f h1]
  rw [if_neg c2] at g ⊢
  by_cases c3 : e.1 = 3
  · rw [if_pos c3]; unfold nPa; rw [ifP_f h1]
  rw [if_neg c3] at g ⊢
  by_cases c7 : e.1 = 7
  · rw [if_pos c7]
  rw [if_neg c7] at g ⊢
  by_cases c4 : e.1 = 4
  · rw [if_pos c4] at g ⊢; rw [nNm_3 h]; exact g
  rw [if_neg c4] at g ⊢
  by_cases c5 : e.1 = 5
  · rw [if_pos c5] at g ⊢; rw [← h.2.2.2.1]; exact g
  rw [if_neg c5]
  by_cases c1 : e.1 = 1
  · rw [if_pos c1]; unfold nCl; rw [ifP_f h2]
  rw [if_neg c1]
  by_cases c0 : e.1 = 0
  · rw [if_pos c0, ifP_f (fun q => h2 q.1)]
  rw [if_neg c0]
theorem sR_3 {r b : RS} (h : N3 r b) (e : EW) : N3 (sR r e) (sR b e) := by
  have h1 : ¬ b.ph = 1 := by have := h.2.1; omega
  have h2 : ¬ r.ph = 1 := by have := h.1; omega
  unfold sR
  by_cases c2 : e.1 = 2
  · rw [if_pos c2, if_pos c2, ifP_f h1, ifP_f h2]; exact h
  rw [if_neg c2, if_neg c2]
  by_cases c3 : e.1 = 3
  · rw [if_pos c3, if_pos c3, ifP_f h1, ifP_f h2]; exact h
  rw [if_neg c3, if_neg c3]
  by_cases c7 : e.1 = 7
  · rw [if_pos c7, if_pos c7, ifP_f h1, ifP_f h2]; exact h
  rw [if_neg c7, if_neg c7]
  by_cases c4 : e.1 = 4
  · rw [if_pos c4, if_pos c4, sNm_3 h1, sNm_3 h2]; exact h
  rw [if_neg c4, if_neg c4]
  by_cases c5 : e.1 = 5
  · rw [if_pos c5, if_pos c5]; exact ⟨h.1, h.2.1, h.2.2.1, by show r.ln + 1 = b.ln + 1; rw [h.2.2.2.1], h.2.2.2.2.1, h.2.2.2.2.2⟩
  rw [if_neg c5, if_neg c5]
  by_cases c1 : e.1 = 1
  · rw [if_pos c1, if_pos c1]; exact h
  rw [if_neg c1, if_neg c1]
  by_cases c0 : e.1 = 0
  · rw [if_pos c0, if_pos c0]; exact ⟨h.1, h.2.1, by show r.rt + 1 = b.rt + 1; rw [h.2.2.1], h.2.2.2.1, h.2.2.2.2.1, h.2.2.2.2.2⟩
  rw [if_neg c0, if_neg c0]; exact h
theorem fold_nz : ∀ (es : List EW) {r b : RS}, N3 r b → (es.foldl uR r).fp.1 = 0 → r.fp.1 = 0 ∧ (es.foldl uR b).fp = b.fp
  | [], _, _, _, h => ⟨h, rfl⟩
  | e :: es, r, b, n, h => by
    rw [List.foldl_cons] at h
    have s3 := sR_3 n e
    have n2 : N3 (uR r e) (uR b e) := s3
    have q := fold_nz es n2 h
    have z : (cnts (nRf r e) r.fp).1 = 0 := q.1
    have w := cnts_z _ (nRf_nz n.1 e) z
    refine ⟨w.2, ?_⟩
    rw [List.foldl_cons, q.2]
    show cnts (nRf b e) b.fp = b.fp
    rw [nRf_3 n e w.1]
    rfl
theorem RM9.three {σb σc σd σe : MS} (gc : GQ1 2 σb σc) (gd : GQ1 3 σd σe) (es : sv σd = sv σb) (hf : σc.1 26 = 0) (h5 : σd.2.1 35 = σb.2.1 35) (h8 : σd.2.2 38 = σb.2.2 38) : σe.1 26 = σd.1 26 ∧ σe.1 27 = σd.1 27 := by
  obtain ⟨t2, x2, l2, e2, ⟨r2, A2, i2, f2⟩, -⟩ := gc
  obtain ⟨t3, x3, l3, e3, ⟨r3, A3, i3, f3⟩, -⟩ := gd
  rw [es] at r3
  have d : e3 = e2 := (RE.det r3 r2 rfl rfl rfl rfl).2
  subst d
  have b2 := f2.ab (by rw [i2.1.1]; decide)
  have b3 := f3.ab (by rw [i3.1.1]; decide)
  have n : N3 (absR A2) (absR A3) := by
    refine ⟨i2.1.1, i3.1.1, ?_, ?_, ?_, ?_⟩
    · show A2.1 30 = A3.1 30; rw [i2.1.2.2.2.1, i3.1.2.2.2.1]
    · show A2.1 31 = A3.1 31; rw [i2.1.2.2.2.2, i3.1.2.2.2.2]
    · show A2.2.1 35 = A3.2.1 35; rw [(i2.2.2.1 (by decide)).2, (i3.2.2.1 (by decide)).2, h5]
    · show A2.2.2 38 = A3.2.2 38; rw [i2.2.2.2.2.1, i3.2.2.2.2.1, h8]
  have z : (e3.foldl uR (absR A2)).fp.1 = 0 := by rw [← b2]; exact hf
  have w := (fold_nz e3 n z).2
  rw [← b3] at w
  have w1 : (σe.1 26, σe.1 27) = (A3.1 26, A3.1 27) := w
  exact ⟨(congrArg Prod.fst w1).trans i3.1.2.1, (congrArg Prod.snd w1).trans i3.1.2.2.1⟩
end
