/-! phase 2 -/
/-- names of a routine stay when more come -/
def NML (r f : RS) : Prop := ∀ k, 0 ≤ k → k < 6 → r.nn k ≤ f.nn k ∧ ∀ i, 0 ≤ i → i < r.nn k → f.nw (12 * k + i) = r.nw (12 * k + i)
def NBD (r : RS) : Prop := ∀ k, 0 ≤ k → k < 6 → 0 ≤ r.nn k ∧ r.nn k ≤ 12
theorem NML.rfl {r : RS} : NML r r := fun _ _ _ => ⟨Int.le_refl _, fun _ _ _ => Eq.refl _⟩
theorem NML.trans {r f g : RS} (h : NML r f) (k : NML f g) : NML r g := fun j a b => ⟨Int.le_trans (h j a b).1 (k j a b).1, fun i x y => ((k j a b).2 i x (by have := (h j a b).1; omega)).trans ((h j a b).2 i x y)⟩
theorem sNm_m {r : RS} {w : Int64} (h0 : 0 ≤ r.rt) (hb : NBD r) : NML r (sNm r w) ∧ NBD (sNm r w) := by
  by_cases z : r.ph = 1 ∧ r.rt < 6 ∧ ¬ fndN r w ∧ r.nn r.rt ≠ 12
  · have e : sNm r w = (RS.mk r.ph r.fp r.rt r.ln r.tn r.tw r.tm (up1 r.nn r.rt (r.nn r.rt + 1)) (up1 r.nw (12 * r.rt + r.nn r.rt) w)) := ifP_t z
    rw [e]
    have hr := hb r.rt h0 z.2.1
    have hn := z.2.2.2
    refine ⟨fun k a b => ⟨?_, fun i x y => ?_⟩, fun k a b => ?_⟩
    · show r.nn k ≤ up1 r.nn r.rt (r.nn r.rt + 1) k
      by_cases q : k = r.rt
      · rw [q, up1_eq]; omega
      · rw [up1_ne q]; exact Int.le_refl _
    · show up1 r.nw (12 * r.rt + r.nn r.rt) w (12 * k + i) = r.nw (12 * k + i)
      refine up1_ne ?_
      have hk := hb k a b
      by_cases q : k = r.rt
      · rw [q] at y ⊢; omega
      · omega
    · show 0 ≤ up1 r.nn r.rt (r.nn r.rt + 1) k ∧ up1 r.nn r.rt (r.nn r.rt + 1) k ≤ 12
      by_cases q : k = r.rt
      · rw [q, up1_eq]; omega
      · rw [up1_ne q]; exact hb k a b
  · have e : sNm r w = r := ifP_f z
    rw [e]; exact ⟨NML.rfl, hb⟩
theorem uR_m {r : RS} {e : EW} (h0 : 0 ≤ r.rt) (hb : NBD r) : NML r (uR r e) ∧ NBD (uR r e) ∧ 0 ≤ (uR r e).rt ∧ (uR r e).ph = r.ph := by
  have go : ∀ {s : RS}, sR r e = s → NML r s → NBD s → 0 ≤ s.rt → s.ph = r.ph → NML r (uR r e) ∧ NBD (uR r e) ∧ 0 ≤ (uR r e).rt ∧ (uR r e).ph = r.ph := fun q a b c d => by
    have a2 : NML r (sR r e) := by rw [q]; exact a
    have b2 : NBD (sR r e) := by rw [q]; exact b
    exact ⟨a2, b2, by show 0 ≤ (sR r e).rt; rw [q]; exact c, by show (sR r e).ph = r.ph; rw [q]; exact d⟩
  have nm := sNm_m (w := e.2.2.2) h0 hb
  have nq := sNm_q r e.2.2.2
  by_cases k2 : e.1 = 2
  · by_cases z : r.ph = 1
    · exact go (s := (RS.mk r.ph r.fp r.rt r.ln (r.tn + 1) (up1 r.tw r.tn e.2.2.2) r.tm r.nn r.nw)) (by unfold sR; rw [if_pos k2, ifP_t z]) (NML.rfl (r := r)) hb h0 rfl
    · exact go (by unfold sR; rw [if_pos k2, ifP_f z]) NML.rfl hb h0 rfl
  by_cases k3 : e.1 = 3
  · by_cases z : r.ph = 1
    · exact go (by unfold sR; rw [if_neg k2, if_pos k3, ifP_t z]) nm.1 nm.2 (by rw [nq.2.1]; exact h0) nq.1
    · exact go (by unfold sR; rw [if_neg k2, if_pos k3, ifP_f z]) NML.rfl hb h0 rfl
  by_cases k7 : e.1 = 7
  · by_cases z : r.ph = 1
    · exact go (s := (RS.mk r.ph r.fp r.rt r.ln r.tn r.tw (up1 r.tm (r.tn - 1) e.2.2.1) r.nn r.nw)) (by unfold sR; rw [if_neg k2, if_neg k3, if_pos k7, ifP_t z]) (NML.rfl (r := r)) hb h0 rfl
    · exact go (by unfold sR; rw [if_neg k2, if_neg k3, if_pos k7, ifP_f z]) NML.rfl hb h0 rfl
  by_cases k4 : e.1 = 4
  · exact go (by unfold sR; rw [if_neg k2, if_neg k3, if_neg k7, if_pos k4]) nm.1 nm.2 (by rw [nq.2.1]; exact h0) nq.1
  by_cases k5 : e.1 = 5
  · exact go (s := (RS.mk r.ph r.fp r.rt (r.ln + 1) r.tn r.tw r.tm r.nn r.nw)) (by unfold sR; rw [if_neg k2, if_neg k3, if_neg k7, if_neg k4, if_pos k5]) (NML.rfl (r := r)) hb h0 rfl
  by_cases k1 : e.1 = 1
  · exact go (by unfold sR; rw [if_neg k2, if_neg k3, if_neg k7, if_neg k4, if_neg k5, if_pos k1]) NML.rfl hb h0 rfl
  by_cases k0 : e.1 = 0
  · exact go (s := (RS.mk r.ph r.fp (r.rt + 1) r.ln r.tn r.tw r.tm r.nn r.nw)) (by unfold sR; rw [if_neg k2, if_neg k3, if_neg k7, if_neg k4, if_neg k5, if_neg k1, if_pos k0]) (NML.rfl (r := r)) hb (by show 0 ≤ r.rt + 1; omega) rfl
  · exact go (by unfold sR; rw [if_neg k2, if_neg k3, if_neg k7, if_neg k4, if_neg k5, if_neg k1, if_neg k0]) NML.rfl hb h0 rfl
theorem fold_m : ∀ (es : List EW) {r : RS}, 0 ≤ r.rt → NBD r → NML r (es.foldl uR r)
  | [], _, _, _ => NML.rfl
  | e :: es, r, h0, hb => by
    have q := uR_m (e := e) h0 hb
    exact q.1.trans (fold_m es q.2.2.1 q.2.1)
/-- the notes of calls, by the routines of f -/
noncomputable def cE (f : RS) (e : EW) : List NT := ifP (e.1 = 1) (ifP (∃ q, fndR f e.2.2.2 q) (ifP (∃ q, fndR f e.2.2.2 q ∧ e.2.2.1 ≠ f.tm q) [(e.2.1, 4)] []) [(e.2.1, 3)]) []
noncomputable def cEs (f : RS) : List EW → List NT
  | [] => []
  | e :: es => cE f e ++ cEs f es
/-- phase 2 beside phase 1: a the state of phase 1 here, f its state at the end, b that of phase 2 here -/
def K2 (a f b : RS) : Prop := a.ph = 1 ∧ b.ph = 2 ∧ b.rt = a.rt ∧ b.ln = a.ln ∧ 0 ≤ a.rt ∧ NBD a ∧ NML a f ∧ b.tn = f.tn ∧ b.tw = f.tw ∧ b.tm = f.tm ∧ b.nn = f.nn ∧ b.nw = f.nw
theorem cE_no {f : RS} {e : EW} (h : e.1 ≠ 1) : cE f e = [] := ifP_f h
theorem zE_n {e : EW} (h : e.1 ≠ 0) : zE e = [] := ifP_f (fun q => h q.1)
/-- a step of both: what phase 2 notes was noted in phase 1, or is of a call, or of an end -/
theorem K2.step {a f b : RS} {e : EW} (h : K2 a f b) (hf : NML (uR a e) f) : K2 (uR a e) f (uR b e) ∧ (∀ n ∈ nRf b e, n ∈ nRf a e ∨ n ∈ cE f e ∨ n ∈ zE e) ∧ (∀ n ∈ cE f e, n ∈ nRf b e) ∧ (∀ n ∈ zE e, n ∈ nRf b e) := by
  obtain ⟨h1, h2, h3, h4, h5, h6, h7, h8, h9, h10, h11, h12⟩ := h
  obtain ⟨m1, m2, m3, m4⟩ := uR_m (e := e) h5 h6
  have nb : ∀ w, nNm b w = nNm b w := fun _ => rfl
  have s2 : ∀ {s : RS}, sR b e = s → s = b ∨ s = (RS.mk b.ph b.fp b.rt (b.ln + 1) b.tn b.tw b.tm b.nn b.nw) ∨ s = (RS.mk b.ph b.fp (b.rt + 1) b.ln b.tn b.tw b.tm b.nn b.nw) → s.rt = (uR a e).rt → s.ln = (uR a e).ln → K2 (uR a e) f (uR b e) := fun {s} q w x y => by
    have base : s.ph = 2 ∧ s.tn = f.tn ∧ s.tw = f.tw ∧ s.tm = f.tm ∧ s.nn = f.nn ∧ s.nw = f.nw := by
      rcases w with w | w | w <;> rw [w] <;> exact ⟨h2, h8, h9, h10, h11, h12⟩
    refine ⟨m4.trans h1, ?_, ?_, ?_, m3, m2, hf, ?_, ?_, ?_, ?_, ?_⟩
    · show (sR b e).ph = 2; rw [q]; exact base.1
    · show (sR b e).rt = _; rw [q]; exact x
    · show (sR b e).ln = _; rw [q]; exact y
    · show (sR b e).tn = _; rw [q]; exact base.2.1
    · show (sR b e).tw = _; rw [q]; exact base.2.2.1
    · show (sR b e).tm = _; rw [q]; exact base.2.2.2.1
    · show (sR b e).nn = _; rw [q]; exact base.2.2.2.2.1
    · show (sR b e).nw = _; rw [q]; exact base.2.2.2.2.2
  have p1 : ¬ b.ph = 1 := by rw [h2]; omega
  have sb : ∀ w, sNm b w = b := fun w => ifP_f (fun q => p1 q.1)
  have nq := sNm_q a e.2.2.2
  have nmem : ∀ n : NT, n ∈ ([] : List NT) → False := fun n q => by simp at q
  by_cases k2 : e.1 = 2
  · have sa : (uR a e).rt = a.rt ∧ (uR a e).ln = a.ln := by
      show (sR a e).rt = a.rt ∧ (sR a e).ln = a.ln
      have : sR a e = (RS.mk a.ph a.fp a.rt a.ln (a.tn + 1) (up1 a.tw a.tn e.2.2.2) a.tm a.nn a.nw) := by unfold sR; rw [if_pos k2, ifP_t h1]
      rw [this]; exact ⟨rfl, rfl⟩
    have n0 : nRf b e = [] := by unfold nRf nRn; rw [if_pos k2, ifP_f p1]
    refine ⟨s2 (s := b) (by unfold sR; rw [if_pos k2, ifP_f p1]) (Or.inl rfl) (by rw [sa.1]; exact h3) (by rw [sa.2]; exact h4), ?_, ?_, ?_⟩
    · intro n q; rw [n0] at q; exact (nmem n q).elim
    · intro n q; rw [cE_no (by omega)] at q; exact (nmem n q).elim
    · intro n q; rw [zE_n (by omega)] at q; exact (nmem n q).elim
  by_cases k3 : e.1 = 3
  · have sa : (uR a e).rt = a.rt ∧ (uR a e).ln = a.ln := by
      show (sR a e).rt = a.rt ∧ (sR a e).ln = a.ln
      have : sR a e = sNm a e.2.2.2 := by unfold sR; rw [if_neg k2, if_pos k3, ifP_t h1]
      rw [this]; exact ⟨nq.2.1, nq.2.2.1⟩
    have n0 : nRf b e = [] := by unfold nRf nPa; rw [if_neg k2, if_pos k3, ifP_f p1]
    refine ⟨s2 (s := b) (by unfold sR; rw [if_neg k2, if_pos k3, ifP_f p1]) (Or.inl rfl) (by rw [sa.1]; exact h3) (by rw [sa.2]; exact h4), ?_, ?_, ?_⟩
    · intro n q; rw [n0] at q; exact (nmem n q).elim
    · intro n q; rw [cE_no (by omega)] at q; exact (nmem n q).elim
    · intro n q; rw [zE_n (by omega)] at q; exact (nmem n q).elim
  by_cases k7 : e.1 = 7
  · have sa : (uR a e).rt = a.rt ∧ (uR a e).ln = a.ln := by
      show (sR a e).rt = a.rt ∧ (sR a e).ln = a.ln
      have : sR a e = (RS.mk a.ph a.fp a.rt a.ln a.tn a.tw (up1 a.tm (a.tn - 1) e.2.2.1) a.nn a.nw) := by unfold sR; rw [if_neg k2, if_neg k3, if_pos k7, ifP_t h1]
      rw [this]; exact ⟨rfl, rfl⟩
    have n0 : nRf b e = [] := by unfold nRf; rw [if_neg k2, if_neg k3, if_pos k7]
    refine ⟨s2 (s := b) (by unfold sR; rw [if_neg k2, if_neg k3, if_pos k7, ifP_f p1]) (Or.inl rfl) (by rw [sa.1]; exact h3) (by rw [sa.2]; exact h4), ?_, ?_, ?_⟩
    · intro n q; rw [n0] at q; exact (nmem n q).elim
    · intro n q; rw [cE_no (by omega)] at q; exact (nmem n q).elim
    · intro n q; rw [zE_n (by omega)] at q; exact (nmem n q).elim
  by_cases k4 : e.1 = 4
  · have ea : sR a e = sNm a e.2.2.2 := by unfold sR; rw [if_neg k2, if_neg k3, if_neg k7, if_pos k4]
    have sa : (uR a e).rt = a.rt ∧ (uR a e).ln = a.ln := by
      show (sR a e).rt = a.rt ∧ (sR a e).ln = a.ln
      rw [ea]; exact ⟨nq.2.1, nq.2.2.1⟩
    have n0 : nRf b e = nNm b e.2.2.2 e.2.1 := by unfold nRf; rw [if_neg k2, if_neg k3, if_neg k7, if_pos k4]
    have n1 : nRf a e = nNm a e.2.2.2 e.2.1 := by unfold nRf; rw [if_neg k2, if_neg k3, if_neg k7, if_pos k4]
    refine ⟨s2 (s := b) (by unfold sR; rw [if_neg k2, if_neg k3, if_neg k7, if_pos k4]; exact sb _) (Or.inl rfl) (by rw [sa.1]; exact h3) (by rw [sa.2]; exact h4), ?_, ?_, ?_⟩
    · intro n q
      rw [n0] at q
      obtain ⟨⟨u1, u2, u3⟩, u4⟩ := mem_if q
      rw [h3] at u1 u3
      rw [h11] at u3
      left
      rw [n1, u4]
      have nf : ¬ fndN a e.2.2.2 := fun ⟨i, x, y, z⟩ => u2 ⟨i, x, by rw [h3, h11]; have := (h7 a.rt h5 u1).1; omega, by rw [h3, h12, (h7 a.rt h5 u1).2 i x y]; exact z⟩
      refine mem_ift ⟨u1, nf, Classical.byContradiction fun v => ?_⟩
      have e9 : sNm a e.2.2.2 = (RS.mk a.ph a.fp a.rt a.ln a.tn a.tw a.tm (up1 a.nn a.rt (a.nn a.rt + 1)) (up1 a.nw (12 * a.rt + a.nn a.rt) e.2.2.2)) := ifP_t ⟨h1, u1, nf, v⟩
      have g1 : (uR a e).nn a.rt = a.nn a.rt + 1 := by show (sR a e).nn a.rt = _; rw [ea, e9]; exact up1_eq
      have g2 : (uR a e).nw (12 * a.rt + a.nn a.rt) = e.2.2.2 := by show (sR a e).nw _ = _; rw [ea, e9]; exact up1_eq
      have hb := h6 a.rt h5 u1
      have hq := hf a.rt h5 u1
      refine u2 ⟨a.nn a.rt, hb.1, ?_, ?_⟩
      · rw [h3, h11]; have := hq.1; omega
      · rw [h3, h12, hq.2 (a.nn a.rt) hb.1 (by omega)]; exact g2
    · intro n q; rw [cE_no (by omega)] at q; exact (nmem n q).elim
    · intro n q; rw [zE_n (by omega)] at q; exact (nmem n q).elim
  by_cases k5 : e.1 = 5
  · have sa : (uR a e).rt = a.rt ∧ (uR a e).ln = a.ln + 1 := by
      show (sR a e).rt = a.rt ∧ (sR a e).ln = a.ln + 1
      have : sR a e = (RS.mk a.ph a.fp a.rt (a.ln + 1) a.tn a.tw a.tm a.nn a.nw) := by unfold sR; rw [if_neg k2, if_neg k3, if_neg k7, if_neg k4, if_pos k5]
      rw [this]; exact ⟨rfl, rfl⟩
    have n0 : nRf b e = ifP (b.ln + 1 = 41) [(e.2.1, 5)] [] := by unfold nRf; rw [if_neg k2, if_neg k3, if_neg k7, if_neg k4, if_pos k5]
    have n1 : nRf a e = ifP (a.ln + 1 = 41) [(e.2.1, 5)] [] := by unfold nRf; rw [if_neg k2, if_neg k3, if_neg k7, if_neg k4, if_pos k5]
    refine ⟨s2 (s := (RS.mk b.ph b.fp b.rt (b.ln + 1) b.tn b.tw b.tm b.nn b.nw)) (by unfold sR; rw [if_neg k2, if_neg k3, if_neg k7, if_neg k4, if_pos k5]) (Or.inr (Or.inl rfl)) (by rw [sa.1]; exact h3) (by rw [sa.2, ← h4]), ?_, ?_, ?_⟩
    · intro n q; left; rw [n1, ← h4, ← n0]; exact q
    · intro n q; rw [cE_no (by omega)] at q; exact (nmem n q).elim
    · intro n q; rw [zE_n (by omega)] at q; exact (nmem n q).elim
  by_cases k1 : e.1 = 1
  · have sa : (uR a e).rt = a.rt ∧ (uR a e).ln = a.ln := by
      show (sR a e).rt = a.rt ∧ (sR a e).ln = a.ln
      have : sR a e = a := by unfold sR; rw [if_neg k2, if_neg k3, if_neg k7, if_neg k4, if_neg k5, if_pos k1]
      rw [this]; exact ⟨rfl, rfl⟩
    have fr : ∀ w q, fndR b w q ↔ fndR f w q := fun w q => by unfold fndR; rw [h8, h9]
    have fx : ∀ w, (∃ q, fndR b w q) ↔ ∃ q, fndR f w q := fun w => ⟨fun ⟨q, z⟩ => ⟨q, (fr w q).mp z⟩, fun ⟨q, z⟩ => ⟨q, (fr w q).mpr z⟩⟩
    have fy : (∃ q, fndR b e.2.2.2 q ∧ e.2.2.1 ≠ b.tm q) ↔ ∃ q, fndR f e.2.2.2 q ∧ e.2.2.1 ≠ f.tm q := ⟨fun ⟨q, z, y⟩ => ⟨q, (fr _ q).mp z, by rw [← h10]; exact y⟩, fun ⟨q, z, y⟩ => ⟨q, (fr _ q).mpr z, by rw [h10]; exact y⟩⟩
    have n0 : nRf b e = cE f e := by
      unfold nRf nCl cE
      rw [if_neg k2, if_neg k3, if_neg k7, if_neg k4, if_neg k5, if_pos k1, ifP_t h2, ifP_t k1]
      by_cases z : ∃ q, fndR f e.2.2.2 q
      · rw [ifP_t z, ifP_t ((fx _).mpr z)]
        by_cases y : ∃ q, fndR f e.2.2.2 q ∧ e.2.2.1 ≠ f.tm q
        · rw [ifP_t y, ifP_t (fy.mpr y)]
        · rw [ifP_f y, ifP_f (fun q => y (fy.mp q))]
      · rw [ifP_f z, ifP_f (fun q => z ((fx _).mp q))]
    refine ⟨s2 (s := b) (by unfold sR; rw [if_neg k2, if_neg k3, if_neg k7, if_neg k4, if_neg k5, if_pos k1]) (Or.inl rfl) (by rw [sa.1]; exact h3) (by rw [sa.2]; exact h4), ?_, ?_, ?_⟩
    · intro n q; rw [n0] at q; exact Or.inr (Or.inl q)
    · intro n q; rw [n0]; exact q
    · intro n q; rw [zE_n (by omega)] at q; exact (nmem n q).elim
  by_cases k0 : e.1 = 0
  · have sa : (uR a e).rt = a.rt + 1 ∧ (uR a e).ln = a.ln := by
      show (sR a e).rt = a.rt + 1 ∧ (sR a e).ln = a.ln
      have : sR a e = (RS.mk a.ph a.fp (a.rt + 1) a.ln a.tn a.tw a.tm a.nn a.nw) := by unfold sR; rw [if_neg k2, if_neg k3, if_neg k7, if_neg k4, if_neg k5, if_neg k1, if_pos k0]
      rw [this]; exact ⟨rfl, rfl⟩
    have n0 : nRf b e = ifP (b.ph = 2 ∧ 120 < e.2.2.1) [(e.2.1, 5)] [] := by unfold nRf; rw [if_neg k2, if_neg k3, if_neg k7, if_neg k4, if_neg k5, if_neg k1, if_pos k0]
    refine ⟨s2 (s := (RS.mk b.ph b.fp (b.rt + 1) b.ln b.tn b.tw b.tm b.nn b.nw)) (by unfold sR; rw [if_neg k2, if_neg k3, if_neg k7, if_neg k4, if_neg k5, if_neg k1, if_pos k0]) (Or.inr (Or.inr rfl)) (by rw [sa.1, ← h3]) (by rw [sa.2]; exact h4), ?_, ?_, ?_⟩
    · intro n q; rw [n0] at q
      obtain ⟨u, v⟩ := mem_if q
      right; right; rw [v]; exact mem_ift ⟨k0, u.2⟩
    · intro n q; rw [cE_no (by omega)] at q; exact (nmem n q).elim
    · intro n q
      obtain ⟨u, v⟩ := mem_if q
      rw [n0, v]; exact mem_ift ⟨h2, u.2⟩
  · have sa : (uR a e).rt = a.rt ∧ (uR a e).ln = a.ln := by
      show (sR a e).rt = a.rt ∧ (sR a e).ln = a.ln
      have : sR a e = a := by unfold sR; rw [if_neg k2, if_neg k3, if_neg k7, if_neg k4, if_neg k5, if_neg k1, if_neg k0]
      rw [this]; exact ⟨rfl, rfl⟩
    have n0 : nRf b e = [] := by unfold nRf; rw [if_neg k2, if_neg k3, if_neg k7, if_neg k4, if_neg k5, if_neg k1, if_neg k0]
    refine ⟨s2 (s := b) (by unfold sR; rw [if_neg k2, if_neg k3, if_neg k7, if_neg k4, if_neg k5, if_neg k1, if_neg k0]) (Or.inl rfl) (by rw [sa.1]; exact h3) (by rw [sa.2]; exact h4), ?_, ?_, ?_⟩
    · intro n q; rw [n0] at q; exact (nmem n q).elim
    · intro n q; rw [cE_no k1] at q; exact (nmem n q).elim
    · intro n q; rw [zE_n k0] at q; exact (nmem n q).elim
/-- phase 2 over all tellings -/
theorem K2.run : ∀ (es : List EW) {a f b : RS}, K2 a f b → es.foldl uR a = f → (∀ n ∈ NR b es, n ∈ NR a es ∨ n ∈ cEs f es ∨ n ∈ zs es) ∧ (∀ n ∈ cEs f es, n ∈ NR b es) ∧ (∀ n ∈ zs es, n ∈ NR b es) ∧ (es.foldl uR b).rt = f.rt
  | [], a, f, b, h, e => by
    have e : a = f := e
    refine ⟨fun n q => ?_, fun n q => q, fun n q => q, ?_⟩
    · exact Or.inl q
    · show b.rt = f.rt
      rw [← e]; exact h.2.2.1
  | e :: es, a, f, b, h, g => by
    have g : es.foldl uR (uR a e) = f := g
    have m := uR_m (e := e) h.2.2.2.2.1 h.2.2.2.2.2.1
    have hf : NML (uR a e) f := by rw [← g]; exact fold_m es m.2.2.1 m.2.1
    obtain ⟨k, x, y, z⟩ := h.step (e := e) hf
    obtain ⟨x2, y2, z2, w2⟩ := K2.run es k g
    refine ⟨fun n q => ?_, fun n q => ?_, fun n q => ?_, w2⟩
    · rcases List.mem_append.mp q with q | q
      · rcases x n q with q | q | q
        · exact Or.inl (List.mem_append.mpr (Or.inl q))
        · exact Or.inr (Or.inl (List.mem_append.mpr (Or.inl q)))
        · exact Or.inr (Or.inr (List.mem_append.mpr (Or.inl q)))
      · rcases x2 n q with q | q | q
        · exact Or.inl (List.mem_append.mpr (Or.inr q))
        · exact Or.inr (Or.inl (List.mem_append.mpr (Or.inr q)))
        · exact Or.inr (Or.inr (List.mem_append.mpr (Or.inr q)))
    · rcases List.mem_append.mp q with q | q
      · exact List.mem_append.mpr (Or.inl (y n q))
      · exact List.mem_append.mpr (Or.inr (y2 n q))
    · rcases List.mem_append.mp q with q | q
      · exact List.mem_append.mpr (Or.inl (z n q))
      · exact List.mem_append.mpr (Or.inr (z2 n q))
theorem LST.run : ∀ (es : List EW) {r : RS} {N : List NT}, LST N r.fp → LST (N ++ NR r es) (es.foldl uR r).fp
  | [], r, N, h => by show LST (N ++ []) r.fp; rw [List.append_nil]; exact h
  | e :: es, r, N, h => by
    have q := LST.run es (r := uR r e) (LST.fold _ h (pos_R r e))
    rw [List.append_assoc] at q
    exact q
/-! what settleCalls notes -/
noncomputable def cS (c : CS) (i : Int) : List NT := ifP (∃ q, 0 ≤ q ∧ q < c.rn ∧ c.rk q = c.ck i ∧ ∀ j, 0 ≤ j → j < q → c.rk j ≠ c.ck i) (ifP (∃ q, (0 ≤ q ∧ q < c.rn ∧ c.rk q = c.ck i ∧ ∀ j, 0 ≤ j → j < q → c.rk j ≠ c.ck i) ∧ c.rp q ≠ c.cc i) [(c.cp i, 4)] []) [(c.cp i, 3)]
noncomputable def cSs (c : CS) : Nat → List NT
  | 0 => []
  | n + 1 => cSs c n ++ cS c n
/-- the calls of a list of tellings -/
def cls1 : List EW → List EW
  | [] => []
  | e :: es => if e.1 = 1 then e :: cls1 es else cls1 es
/-- the class's calls are those that were told -/
def CLS (c : CS) (L : List EW) : Prop := c.cn = (L.length : Int) ∧ ∀ (i : Nat) (e : EW), L[i]? = some e → c.ck i = e.2.2.2 ∧ c.cp i = e.2.1 ∧ c.cc i = e.2.2.1
theorem CLS.step {c : CS} {L : List EW} {e : EW} (h : CLS c L) : CLS (uC c e) (L ++ cls1 [e]) := by
  have sq := sCn_q c e.2.2.2
  have keep : (sC c e).cn = c.cn → (sC c e).ck = c.ck → (sC c e).cp = c.cp → (sC c e).cc = c.cc → e.1 ≠ 1 → CLS (uC c e) (L ++ cls1 [e]) := fun a b d f g => by
    have e0 : cls1 [e] = [] := by show (if e.1 = 1 then _ else _) = _; rw [if_neg g]; rfl
    rw [e0, List.append_nil]
    refine ⟨a.trans h.1, fun i x q => ?_⟩
    show (sC c e).ck i = _ ∧ (sC c e).cp i = _ ∧ (sC c e).cc i = _
    rw [b, d, f]; exact h.2 i x q
  by_cases k2 : e.1 = 2
  · have sc : sC c e = (CS.mk c.fp (c.rn + 1) (up1 c.rk c.rn e.2.2.2) (up1 c.rp c.rn 0) c.cn c.ck c.cp c.cc 0 c.nk c.m) := by unfold sC; rw [if_pos k2]
    exact keep (by rw [sc]) (by rw [sc]) (by rw [sc]) (by rw [sc]) (by omega)
  by_cases k3 : e.1 = 3
  · have sc : sC c e = (CS.mk (sCn c e.2.2.2).fp (sCn c e.2.2.2).rn (sCn c e.2.2.2).rk (up1 c.rp (c.rn - 1) (e.2.2.1 + 1)) (sCn c e.2.2.2).cn (sCn c e.2.2.2).ck (sCn c e.2.2.2).cp (sCn c e.2.2.2).cc (sCn c e.2.2.2).nn (sCn c e.2.2.2).nk (sCn c e.2.2.2).m) := by unfold sC; rw [if_neg k2, if_pos k3]
    exact keep (by rw [sc]; exact sq.2.2.2.1) (by rw [sc]; exact sq.2.2.2.2.1) (by rw [sc]; exact sq.2.2.2.2.2.1) (by rw [sc]; exact sq.2.2.2.2.2.2.1) (by omega)
  by_cases k7 : e.1 = 7
  · have sc : sC c e = c := by unfold sC; rw [if_neg k2, if_neg k3, if_pos k7]
    exact keep (by rw [sc]) (by rw [sc]) (by rw [sc]) (by rw [sc]) (by omega)
  by_cases k4 : e.1 = 4
  · have sc : sC c e = sCn c e.2.2.2 := by unfold sC; rw [if_neg k2, if_neg k3, if_neg k7, if_pos k4]
    exact keep (by rw [sc]; exact sq.2.2.2.1) (by rw [sc]; exact sq.2.2.2.2.1) (by rw [sc]; exact sq.2.2.2.2.2.1) (by rw [sc]; exact sq.2.2.2.2.2.2.1) (by omega)
  by_cases k5 : e.1 = 5
  · have sc : sC c e = (CS.mk c.fp c.rn c.rk c.rp c.cn c.ck c.cp c.cc c.nn c.nk (c.m + 1)) := by unfold sC; rw [if_neg k2, if_neg k3, if_neg k7, if_neg k4, if_pos k5]
    exact keep (by rw [sc]) (by rw [sc]) (by rw [sc]) (by rw [sc]) (by omega)
  by_cases k1 : e.1 = 1
  · have sc : sC c e = (CS.mk c.fp c.rn c.rk c.rp (c.cn + 1) (up1 c.ck c.cn e.2.2.2) (up1 c.cp c.cn e.2.1) (up1 c.cc c.cn e.2.2.1) c.nn c.nk c.m) := by unfold sC; rw [if_neg k2, if_neg k3, if_neg k7, if_neg k4, if_neg k5, if_pos k1]
    have e0 : cls1 [e] = [e] := by show (if e.1 = 1 then _ else _) = _; rw [if_pos k1]; rfl
    rw [e0]
    refine ⟨?_, fun i x q => ?_⟩
    · show (sC c e).cn = _
      rw [sc, List.length_append, Int.natCast_add, ← h.1]; rfl
    · show (sC c e).ck i = _ ∧ (sC c e).cp i = _ ∧ (sC c e).cc i = _
      rw [sc]
      show up1 c.ck c.cn e.2.2.2 i = _ ∧ up1 c.cp c.cn e.2.1 i = _ ∧ up1 c.cc c.cn e.2.2.1 i = _
      rw [h.1]
      by_cases z : i < L.length
      · rw [List.getElem?_append_left z] at q
        rw [up1_ne (by omega), up1_ne (by omega), up1_ne (by omega)]
        exact h.2 i x q
      · rw [List.getElem?_append_right (by omega)] at q
        have z2 : i = L.length := by
          by_cases y : i - L.length = 0
          · omega
          · rw [List.getElem?_eq_none (by simp; omega)] at q; exact absurd q (by simp)
        rw [z2, Nat.sub_self] at q
        have q : e = x := by simpa using q
        rw [z2, up1_eq, up1_eq, up1_eq, q]; exact ⟨rfl, rfl, rfl⟩
  · have sc : sC c e = c := by unfold sC; rw [if_neg k2, if_neg k3, if_neg k7, if_neg k4, if_neg k5, if_neg k1]
    exact keep (by rw [sc]) (by rw [sc]) (by rw [sc]) (by rw [sc]) k1
theorem CLS.run : ∀ (es : List EW) {c : CS} {L : List EW}, CLS c L → CLS (es.foldl uC c) (L ++ cls1 es)
  | [], c, L, h => by show CLS c (L ++ []); rw [List.append_nil]; exact h
  | e :: es, c, L, h => by
    have q := CLS.run es (h.step (e := e))
    have x : L ++ cls1 [e] ++ cls1 es = L ++ cls1 (e :: es) := by
      rw [List.append_assoc]
      congr 1
      show (if e.1 = 1 then e :: cls1 [] else cls1 []) ++ cls1 es = if e.1 = 1 then e :: cls1 es else cls1 es
      by_cases z : e.1 = 1
      · rw [if_pos z, if_pos z]; rfl
      · rw [if_neg z, if_neg z]; rfl
    rw [x] at q
    exact q
theorem cls1_mem : ∀ (es : List EW) {e : EW}, e ∈ cls1 es ↔ e ∈ es ∧ e.1 = 1
  | [], e => by show e ∈ ([] : List EW) ↔ _; simp
  | x :: es, e => by
    show e ∈ (if x.1 = 1 then x :: cls1 es else cls1 es) ↔ _
    by_cases z : x.1 = 1
    · rw [if_pos z, List.mem_cons, List.mem_cons, cls1_mem es]
      constructor
      · rintro (rfl | h)
        · exact ⟨Or.inl rfl, z⟩
        · exact ⟨Or.inr h.1, h.2⟩
      · rintro ⟨rfl | h, w⟩
        · exact Or.inl rfl
        · exact Or.inr ⟨h, w⟩
    · rw [if_neg z, List.mem_cons, cls1_mem es]
      constructor
      · rintro h; exact ⟨Or.inr h.1, h.2⟩
      · rintro ⟨rfl | h, w⟩
        · exact absurd w z
        · exact ⟨h, w⟩
theorem cEs_mem {f : RS} : ∀ (es : List EW) {n : NT}, n ∈ cEs f es ↔ ∃ e ∈ es, n ∈ cE f e
  | [], n => by show n ∈ ([] : List NT) ↔ _; simp
  | e :: es, n => by
    show n ∈ cE f e ++ cEs f es ↔ _
    rw [List.mem_append, cEs_mem es]
    constructor
    · rintro (h | ⟨x, a, b⟩)
      · exact ⟨e, List.mem_cons_self, h⟩
      · exact ⟨x, List.mem_cons_of_mem _ a, b⟩
    · rintro ⟨x, a, b⟩
      rcases List.mem_cons.mp a with a | a
      · rw [← a]; exact Or.inl b
      · exact Or.inr ⟨x, a, b⟩
theorem cSs_mem {c : CS} : ∀ (k : Nat) {n : NT}, n ∈ cSs c k ↔ ∃ i : Nat, i < k ∧ n ∈ cS c i
  | 0, n => by
    show n ∈ ([] : List NT) ↔ _
    constructor
    · intro h; simp at h
    · rintro ⟨i, a, -⟩; omega
  | k + 1, n => by
    show n ∈ cSs c k ++ cS c k ↔ _
    rw [List.mem_append, cSs_mem k]
    constructor
    · rintro (⟨i, a, b⟩ | h)
      · exact ⟨i, by omega, b⟩
      · exact ⟨k, by omega, h⟩
    · rintro ⟨i, a, b⟩
      by_cases z : i = k
      · rw [z] at b; exact Or.inr b
      · exact Or.inl ⟨i, by omega, b⟩
/-- routines alike -/
def RAL (f : RS) (c : CS) : Prop := f.tn = c.rn ∧ (∀ j, 0 ≤ j → j < c.rn → f.tw j = c.rk j) ∧ ∀ j, 0 ≤ j → j < c.rn → f.tm j = c.rp j
theorem RAL.fnd {f : RS} {c : CS} {w : Int64} {q : Int} (h : RAL f c) : fndR f w q ↔ (0 ≤ q ∧ q < c.rn ∧ c.rk q = w ∧ ∀ j, 0 ≤ j → j < q → c.rk j ≠ w) := by
  unfold fndR
  rw [h.1]
  constructor
  · rintro ⟨a, b, d, e⟩
    exact ⟨a, b, by rw [← h.2.1 q a b]; exact d, fun j x y => by rw [← h.2.1 j x (by omega)]; exact e j x y⟩
  · rintro ⟨a, b, d, e⟩
    exact ⟨a, b, by rw [h.2.1 q a b]; exact d, fun j x y => by rw [h.2.1 j x (by omega)]; exact e j x y⟩
theorem RAL.eq {f : RS} {c : CS} {e : EW} {i : Int} (h : RAL f c) (k : e.1 = 1) (a : c.ck i = e.2.2.2) (b : c.cp i = e.2.1) (d : c.cc i = e.2.2.1) : cE f e = cS c i := by
  unfold cE cS
  rw [ifP_t k, a, b, d]
  have x : (∃ q, fndR f e.2.2.2 q) ↔ ∃ q, 0 ≤ q ∧ q < c.rn ∧ c.rk q = e.2.2.2 ∧ ∀ j, 0 ≤ j → j < q → c.rk j ≠ e.2.2.2 := ⟨fun ⟨q, z⟩ => ⟨q, h.fnd.mp z⟩, fun ⟨q, z⟩ => ⟨q, h.fnd.mpr z⟩⟩
  have y : (∃ q, fndR f e.2.2.2 q ∧ e.2.2.1 ≠ f.tm q) ↔ ∃ q, (0 ≤ q ∧ q < c.rn ∧ c.rk q = e.2.2.2 ∧ ∀ j, 0 ≤ j → j < q → c.rk j ≠ e.2.2.2) ∧ c.rp q ≠ e.2.2.1 := by
    constructor
    · rintro ⟨q, z, u⟩
      have w := h.fnd.mp z
      exact ⟨q, w, fun v => u (by rw [h.2.2 q w.1 w.2.1]; exact v.symm)⟩
    · rintro ⟨q, w, u⟩
      exact ⟨q, h.fnd.mpr w, fun v => u (by rw [h.2.2 q w.1 w.2.1] at v; exact v.symm)⟩
  by_cases z : ∃ q, fndR f e.2.2.2 q
  · rw [ifP_t z, ifP_t (x.mp z)]
    by_cases u : ∃ q, fndR f e.2.2.2 q ∧ e.2.2.1 ≠ f.tm q
    · rw [ifP_t u, ifP_t (y.mp u)]
    · rw [ifP_f u, ifP_f (fun v => u (y.mpr v))]
  · rw [ifP_f z, ifP_f (fun v => z (x.mpr v))]
theorem pos_cS (c : CS) (i : Int) : POS (cS c i) := pos_ifL (pos_if (by omega)) (fun n q => by rw [List.mem_singleton.mp q]; show (0 : Int) < 3; omega)
theorem pos_cSs (c : CS) : ∀ k, POS (cSs c k)
  | 0 => POS.nil
  | k + 1 => (pos_cSs c k).app (pos_cS c k)
theorem RAL.mem {f : RS} {c : CS} {es : List EW} (h : RAL f c) (g : CLS c (cls1 es)) {n : NT} : n ∈ cEs f es ↔ n ∈ cSs c c.cn.toNat := by
  rw [cEs_mem, cSs_mem]
  have hl : c.cn.toNat = (cls1 es).length := by rw [g.1]; rfl
  constructor
  · rintro ⟨e, a, b⟩
    have k : e.1 = 1 := Classical.byContradiction fun q => by rw [cE_no q] at b; simp at b
    obtain ⟨i, hi⟩ := List.mem_iff_getElem?.mp ((cls1_mem es).mpr ⟨a, k⟩)
    obtain ⟨x, y, z⟩ := g.2 i e hi
    refine ⟨i, ?_, by rw [← h.eq k x y z]; exact b⟩
    rw [hl]
    exact Classical.byContradiction fun q => by rw [List.getElem?_eq_none (by omega)] at hi; simp at hi
  · rintro ⟨i, a, b⟩
    rw [hl] at a
    have hi := List.getElem?_eq_getElem a
    obtain ⟨x, y, z⟩ := g.2 i _ hi
    have m := (cls1_mem es).mp (List.getElem_mem a)
    exact ⟨_, m.1, by rw [h.eq m.2 x y z]; exact b⟩
/-- both readers come to one fault, one place, one count of routines -/
theorem READERS {es : List EW} {r b : RS} {c : CS} (s : SHP es 0 0 0) (r1 : r.ph = 1) (r2 : r.fp = (0, -1)) (r3 : r.rt = 0) (r4 : r.ln = 0) (r5 : r.tn = 0) (r6 : ∀ k, 0 ≤ k → k < 6 → r.nn k = 0) (c1 : c.fp = (0, -1)) (c2 : c.rn = 0) (c3 : c.cn = 0) (c4 : 0 ≤ c.nn ∧ c.nn ≤ 12) (c5 : c.m = 0) (b1 : b.ph = 2) (b2 : b.fp = (es.foldl uR r).fp) (b3 : b.rt = 0) (b4 : b.ln = 0) (b5 : b.tn = (es.foldl uR r).tn) (b6 : b.tw = (es.foldl uR r).tw) (b7 : b.tm = (es.foldl uR r).tm) (b8 : b.nn = (es.foldl uR r).nn) (b9 : b.nw = (es.foldl uR r).nw) :
    (es.foldl uR b).fp = cnts (cSs (es.foldl uC c) (es.foldl uC c).cn.toNat) (es.foldl uC c).fp ∧ (es.foldl uR b).rt = (es.foldl uC c).rn := by
  have k0 : K1 r c [] [] [] 0 0 0 := by
    refine ⟨r1, by rw [r2]; exact LST.nil, by rw [c1]; exact LST.nil, DMN.nil, DMN.nil, fun n q => q, by rw [r3]; exact Int.le_refl _, by rw [r5, c2], Or.inl ⟨rfl, by rw [c2, r3]⟩, fun j x y => by rw [c2] at y; omega, fun j x y => by rw [c2] at y; omega, fun q => by omega, by rw [r4, c5], fun q => absurd rfl q, c4, fun k x y => r6 k (by rw [r3] at x; omega) y, fun q => by rw [c2] at q; omega, fun q => by rw [c5] at q; omega, fun q => by omega⟩
  obtain ⟨pc, lo, k⟩ := K1.run es k0 s
  rw [List.nil_append, List.nil_append, List.nil_append] at k
  have nb : NBD r := fun j x y => by rw [r6 j x y]; omega
  have h2 : K2 r (es.foldl uR r) b := ⟨r1, b1, by rw [b3, r3], by rw [b4, r4], by rw [r3]; exact Int.le_refl _, nb, fold_m es (by rw [r3]; exact Int.le_refl _) nb, b5, b6, b7, b8, b9⟩
  obtain ⟨x, y, z, w⟩ := h2.run es rfl
  have ral : RAL (es.foldl uR r) (es.foldl uC c) := ⟨k.tn, k.tw, fun j p q => k.tm j p (Or.inr ⟨q, by omega⟩)⟩
  have cl := CLS.run es (c := c) (L := []) ⟨c3, fun i e q => by simp at q⟩
  rw [List.nil_append] at cl
  have l1 := LST.run es (r := b) (N := NR r es) (by rw [b2]; exact k.l1)
  have l2 := LST.fold (cSs (es.foldl uC c) (es.foldl uC c).cn.toNat) k.l2 (pos_cSs _ _)
  refine ⟨LST.eq l1 l2 (DMN.app ?_ ?_) (DMN.app ?_ ?_), ?_⟩
  · exact k.d1.mono (fun m q => List.mem_append.mpr (Or.inl q))
  · intro n q
    rcases x n q with q | q | q
    · exact (k.d1.mono (fun m q => List.mem_append.mpr (Or.inl q))) n q
    · exact ⟨n, List.mem_append.mpr (Or.inr ((ral.mem cl).mp q)), LE2.rfl⟩
    · exact ⟨n, List.mem_append.mpr (Or.inl (k.dz n q)), LE2.rfl⟩
  · exact k.d2.mono (fun m q => (List.mem_append.mp q).elim (fun q => List.mem_append.mpr (Or.inl q)) (fun q => List.mem_append.mpr (Or.inr (z m q))))
  · intro n q
    exact ⟨n, List.mem_append.mpr (Or.inr (y n ((ral.mem cl).mpr q))), LE2.rfl⟩
  · rw [w]
    rcases k.rt with q | q
    · exact q.2.symm
    · exact absurd rfl q.1

