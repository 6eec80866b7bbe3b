/-- a routine stands well -/
def GDR (σ : MS) (r : Int) : Prop := (1 ≤ σ.2.1 9 r ∧ σ.2.1 9 r ≤ 200) ∧ OKF σ r ∧ OKS σ (σ.2.1 14 r) r ∧ FR0 σ r ∧ LEX σ r ∧ CODE σ r ∧ FRI σ r ∧ LBM σ r ∧ σ.2.1 11 r ≤ σ.2.1 12 r
def GDA (σ : MS) : Prop := (0 ≤ σ.1 10 ∧ σ.1 10 ≤ 6) ∧ ∀ r, 0 ≤ r → r < σ.1 10 → GDR σ r
theorem GDR.fr {ss ks js : List Nat} {σ τ : MS} {r : Int} (h : GDR σ r) (f : Fr ss ks js σ τ) (hs : 10 ∉ ss) (hk : ∀ k ∈ [3, 4, 5, 6, 7, 8, 9, 11, 12, 14, 15, 16, 18], k ∉ ks) : GDR τ r := by
  have sub : ∀ l : List Nat, (∀ k ∈ l, k ∈ [3, 4, 5, 6, 7, 8, 9, 11, 12, 14, 15, 16, 18]) → ∀ k ∈ l, k ∉ ks := fun l hl k q => hk k (hl k q)
  obtain ⟨h1, h2, h3, h4, h5, h6, h7, h8, h9⟩ := h
  refine ⟨by rw [f.2.1 9 (hk 9 (by decide))]; exact h1, h2.fr f (sub _ (by decide)), ?_, ?_, h5.fr f (sub _ (by decide)), h6.fr f hs (sub _ (by decide)), h7.fr f (sub _ (by decide)), h8.fr f (sub _ (by decide)), by rw [f.2.1 11 (hk 11 (by decide)), f.2.1 12 (hk 12 (by decide))]; exact h9⟩
  · rw [f.2.1 14 (hk 14 (by decide))]; exact h3.fr f (sub _ (by decide))
  · unfold FR0; rw [f.2.1 15 (hk 15 (by decide))]; exact h4
theorem GDA.fr {ss ks js : List Nat} {σ τ : MS} (h : GDA σ) (f : Fr ss ks js σ τ) (hs : 10 ∉ ss) (hk : ∀ k ∈ [3, 4, 5, 6, 7, 8, 9, 11, 12, 14, 15, 16, 18], k ∉ ks) : GDA τ := ⟨by rw [f.1 10 hs]; exact h.1, fun r a b => (h.2 r a (by rw [← f.1 10 hs]; exact b)).fr f hs hk⟩
theorem GDA.rtn {σ : MS} (h : GDA σ) : RTN σ := ⟨h.1, fun r a b => ⟨(h.2 r a b).1, (h.2 r a b).2.1, (h.2 r a b).2.2.1, (h.2 r a b).2.2.2.1, (h.2 r a b).2.2.2.2.1⟩⟩
theorem GDR.oth {σ τ : MS} {r s : Int} (h : GDR σ s) (hs : 0 ≤ s ∧ s < 6 ∧ s ≠ r) (hn : NAM σ) (xr : XR r σ τ) (e9 : τ.2.1 9 s = σ.2.1 9 s) (e14 : τ.2.1 14 s = σ.2.1 14 s) (e11 : τ.2.1 11 = σ.2.1 11) (e12 : τ.2.1 12 = σ.2.1 12) (e10 : τ.1 10 = σ.1 10) (ey : ∀ y, (y < 12 * r ∨ 12 * r + 12 ≤ y) → τ.2.1 15 y = σ.2.1 15 y ∧ τ.2.1 16 y = σ.2.1 16 y) (ez : ∀ z, (z < 144 * r ∨ 144 * r + 144 ≤ z) → τ.2.1 18 z = σ.2.1 18 z) : GDR τ s := by
  obtain ⟨h1, h2, h3, h4, h5, h6, h7, h8, h9⟩ := h
  have ie : ∀ k, 0 ≤ k → k < 220 → IEQ σ (220 * s + k) τ (220 * s + k) := fun k a b => xr.ieq (by omega) (by omega)
  have b14 := h2.1
  refine ⟨by rw [e9]; exact h1, ?_, fun k a b => ?_, ?_, fun k a b e => ?_, ?_, ?_, fun k a b e => ?_, by rw [e11, e12]; exact h9⟩
  · unfold OKF
    rw [e14, e12]
    refine ⟨h2.1, fun f a b => ?_⟩
    have q := h2.2 f a b
    have qn := hn _ q.1.1 q.1.2
    rw [(ey (12 * s + f) (by omega)).1]
    exact ⟨q.1, fun n c d => by rw [ez _ (by omega)]; exact q.2 n c d⟩
  · rw [e9] at b
    rw [e14]
    exact (ie k a (by omega)).oki e11 (h3 k a b)
  · unfold FR0; rw [(ey (12 * s + 0) (by omega)).1]; exact h4
  · rw [e9] at b
    rw [(ie k a (by omega)).1] at e
    obtain ⟨j, j0, j1, j2, j3⟩ := h5 k a b e
    exact ⟨j, j0, by rw [e9]; exact j1, by rw [(ie j j0 (by omega)).1]; exact j2, by rw [(ie j j0 (by omega)).2.1, (ie k a (by omega)).2.1]; exact j3⟩
  · obtain ⟨fr, lf, c1, c2, c3, c4, c5⟩ := h6
    refine ⟨fr, lf, ?_⟩
    rw [e9, e14, e10]
    have k3 : ∀ k, 0 ≤ k → k < σ.2.1 9 s → iK τ s k = iK σ s k := fun k a b => (ie k a (by omega)).1
    have k4 : ∀ k, 0 ≤ k → k < σ.2.1 9 s → iD τ s k = iD σ s k := fun k a b => (ie k a (by omega)).2.1
    have k5 : ∀ k, 0 ≤ k → k < σ.2.1 9 s → iO τ s k = iO σ s k := fun k a b => (ie k a (by omega)).2.2.1
    have kf : ∀ f, 0 ≤ f → f < 12 → iF τ s f = iF σ s f := fun f a b => (ey (12 * s + f) (by omega)).2
    refine ⟨c1, c2, fun k a b x7 x8 => ?_, fun k a b => ?_, fun k a b e => ?_⟩
    · rw [k3 k a b] at x7 x8 ⊢
      rw [k4 k a b]
      obtain ⟨d1, d2, d3, d4⟩ := c3 k a b x7 x8
      refine ⟨d1, fun e => ?_, fun e => ?_, d4⟩
      · have q := d2 e
        have w := c2 (k + 1) (by omega) d1
        rw [kf _ (by omega) (by omega)]; exact q
      · have q := d3 e
        have w := c2 k a b
        rw [kf _ (by omega) (by omega)]; exact q
    · rw [k3 k a b, k4 k a b]; exact c4 k a b
    · rw [k3 k a b] at e
      obtain ⟨d0, j, d1, d2, d3, d4, d5⟩ := c5 k a b e
      exact ⟨by rw [k5 k a b]; exact d0, j, d1, d2, by rw [k3 j d1 (by omega)]; exact d3, by rw [k5 j d1 (by omega)]; exact d4, fun i x y => by rw [k3 i (by omega) (by omega)]; exact d5 i x y⟩
  · refine ⟨by rw [(ey (12 * s + 0) (by omega)).2]; exact h7.1, fun f a b => ?_⟩
    rw [e14] at b
    rw [(ey (12 * s + f) (by omega)).2]; exact h7.2 f a b
  · rw [e9] at b
    rw [(ie k a (by omega)).1] at e
    rw [(ie k a (by omega)).2.1, e14]; exact h8 k a b e
theorem GDA.of {σ τ : MS} {r : Int} (h : GDA σ) (hr : 0 ≤ r ∧ r < σ.1 10) (hn : NAM σ) (xr : XR r σ τ) (e9 : ∀ j, j ≠ r → τ.2.1 9 j = σ.2.1 9 j) (e14 : ∀ j, j ≠ r → τ.2.1 14 j = σ.2.1 14 j) (e11 : τ.2.1 11 = σ.2.1 11) (e12 : τ.2.1 12 = σ.2.1 12) (e10 : τ.1 10 = σ.1 10) (ey : ∀ y, (y < 12 * r ∨ 12 * r + 12 ≤ y) → τ.2.1 15 y = σ.2.1 15 y ∧ τ.2.1 16 y = σ.2.1 16 y) (ez : ∀ z, (z < 144 * r ∨ 144 * r + 144 ≤ z) → τ.2.1 18 z = σ.2.1 18 z) (g : GDR τ r) : GDA τ := by
  refine ⟨by rw [e10]; exact h.1, fun s a b => ?_⟩
  by_cases z : s = r
  · rw [z]; exact g
  · rw [e10] at b
    have := h.1
    exact (h.2 s a b).oth ⟨a, by omega, z⟩ hn xr (e9 s z) (e14 s z) e11 e12 e10 ey ez
/-- the routine that is called is one -/
theorem GDR.call {σ : MS} {r k : Int} (h : GDR σ r) (hk : 0 ≤ k ∧ k < σ.2.1 9 r) (e : σ.2.1 3 (220 * r + k) = 10) : 0 ≤ σ.2.1 5 (220 * r + k) ∧ σ.2.1 5 (220 * r + k) < σ.1 10 := by
  obtain ⟨fr, lf, c⟩ := h.2.2.2.2.2.1
  exact ⟨((h.2.2.1 k hk.1 hk.2).2.2.2.2.2.2.1 e).1, (c.2.2.2.2 k hk.1 hk.2 e).1⟩
theorem RGI_fr {σ τ : MS} {r m n : Int} (f : Fr [] [46, 59] [] σ τ) (h : RGI τ r m n) : RGI σ r m n := fun k a b => by
  have q := h k a b
  rw [f.2.1 3 (by decide), f.2.1 4 (by decide), nArgs.fr f (by decide), f.2.1 7 (by decide), f.2.1 8 (by decide)] at q
  exact q
theorem cnt_le {f : Int → Int} (hf : ∀ i, f i ≤ 1) (n : Nat) : cnt f n ≤ n := by
  induction n with
  | zero => exact Int.le_refl _
  | succ n ih =>
    have := hf n
    show cnt f n + f n ≤ _
    omega
theorem lcf_1 (ρ : MS) (q g : Int) : lcf ρ q g ≤ 1 := by unfold lcf; split <;> decide
theorem rcf_1 (ρ : MS) (q g : Int) : rcf ρ q g ≤ 1 := by unfold rcf; split <;> decide

theorem dX12_melt_118 : decode cX12_melt 118 = .ok (.iload 7, 2) := by decide +kernel
theorem dX12_melt_120 : decode cX12_melt 120 = .ok (.sipush 192, 3) := by decide +kernel
theorem dX12_melt_123 : decode cX12_melt 123 = .ok (.if_icmp .ge 40, 3) := by decide +kernel
theorem dX12_melt_126 : decode cX12_melt 126 = .ok (.iload 6, 2) := by decide +kernel
theorem dX12_melt_128 : decode cX12_melt 128 = .ok (.aload_n 0, 1) := by decide +kernel
theorem dX12_melt_129 : decode cX12_melt 129 = .ok (.getfield 130, 3) := by decide +kernel
theorem dX12_melt_132 : decode cX12_melt 132 = .ok (.iload 7, 2) := by decide +kernel
theorem dX12_melt_134 : decode cX12_melt 134 = .ok (.baload, 1) := by decide +kernel
theorem dX12_melt_135 : decode cX12_melt 135 = .ok (.ifCond .eq 18, 3) := by decide +kernel
theorem dX12_melt_153 : decode cX12_melt 153 = .ok (.iconst 0, 1) := by decide +kernel
theorem dX12_melt_154 : decode cX12_melt 154 = .ok (.iadd, 1) := by decide +kernel
theorem dX12_melt_155 : decode cX12_melt 155 = .ok (.istore 6, 2) := by decide +kernel
theorem dX12_melt_157 : decode cX12_melt 157 = .ok (.iinc 7 1, 3) := by decide +kernel
theorem dX12_melt_160 : decode cX12_melt 160 = .ok (.goto (-42), 3) := by decide +kernel
theorem dX12_melt_138 : decode cX12_melt 138 = .ok (.aload_n 0, 1) := by decide +kernel
theorem dX12_melt_139 : decode cX12_melt 139 = .ok (.iload 5, 2) := by decide +kernel
theorem dX12_melt_141 : decode cX12_melt 141 = .ok (.iload 7, 2) := by decide +kernel
theorem dX12_melt_143 : decode cX12_melt 143 = .ok (.invokevirtual 503, 3) := by decide +kernel
theorem dX12_melt_146 : decode cX12_melt 146 = .ok (.ifCond .ne 7, 3) := by decide +kernel
theorem dX12_melt_149 : decode cX12_melt 149 = .ok (.iconst 1, 1) := by decide +kernel
theorem dX12_melt_150 : decode cX12_melt 150 = .ok (.goto 4, 3) := by decide +kernel
set_option maxHeartbeats 2000000 in
set_option maxRecDepth 20000 in
theorem l_me2 (d : Nat) {b : Nat} {σ : MS} {r : Int} {k : Int} {q : Int} {tl : Int} {W0 : Int} {post : Option Value → MS → Prop} (hq : 0 ≤ q ∧ q < 6) (hR : RG σ) (hpar : PAR σ) (hbl : BO 59 σ) (hx_163 : ∀ (w : Int) (g : Int) , (w = W0 + cnt (lcf σ q) 192) → Tm (d + 2) m_X12_melt 163 b σ [(6, .int (iI w)), (5, .int (iI q)), (4, .int (iI (220 * r + k))), (3, .int (iI k)), (2, .int (iI tl)), (0, .ref b), (1, .int (iI r))] [] post) : ∀ (n : Nat) (w : Int) (g : Int) , (0 ≤ g ∧ g ≤ 192) → (w = W0 + cnt (lcf σ q) g.toNat) → (192 - g).toNat = n → Tm (d + 2) m_X12_melt 118 b σ [(7, .int (iI g)), (6, .int (iI w)), (5, .int (iI q)), (4, .int (iI (220 * r + k))), (3, .int (iI k)), (2, .int (iI tl)), (0, .ref b), (1, .int (iI r))] [] post := by
  intro n
  induction n using Nat.strongRecOn with
  | _ n ih =>
    intro w g h0 hc hm
    have mpa := hpar q (by omega) (by omega)
    refine tm_iload dX12_melt_118 0 rfl ?_
    refine tm_sipush dX12_melt_120 (by decide) ?_
    refine tm_icmp_ge (tgt := 163) dX12_melt_123 (by decide) ⟨by omega, by omega⟩ ⟨by decide, by decide⟩ (fun h1 => ?_) (fun h1 => ?_)
    · exact tm_sub [1, 2, 3, 4, 5, 6, 7] rfl (hx_163 (w) (0) (by rw [show g.toNat = 192 by omega] at hc; exact hc))
    · have hb59 := hbl g
      refine tm_iload dX12_melt_126 1 rfl ?_
      refine tm_aload_n dX12_melt_128 rfl 6 rfl ?_
      refine tm_get (k := 59) (v := .ref (b + 1 + 37)) lay_12 dX12_melt_129 (by decide) fl12_130 rfl ?_
      refine tm_iload dX12_melt_132 0 rfl ?_
      refine tm_zald (z := g) (v := σ.2.1 59 g) dX12_melt_134 (show mT[37]? = some (59, 2, 42432) from rfl) (by omega) (by omega) (by decide) (rfl) ?_
      have g2 := RG.a hR 59 (g)
      have := hbl (g)
      refine tm_if_eq (tgt := 153) dX12_melt_135 (by decide) ⟨by omega, by omega⟩ (fun h3 => ?_) (fun h3 => ?_)
      · refine tm_iconst dX12_melt_153 ?_
        refine tm_iadd dX12_melt_154 ?_
        refine tm_istore (L' := [(6, .int (iI (w + 0))), (7, .int (iI g)), (5, .int (iI q)), (4, .int (iI (220 * r + k))), (3, .int (iI k)), (2, .int (iI tl)), (0, .ref b), (1, .int (iI r))]) dX12_melt_155 (by decide) rfl ?_
        refine tm_iinc (q0 := 1) (L' := [(7, .int (iI (g + 1))), (6, .int (iI (w + 0))), (5, .int (iI q)), (4, .int (iI (220 * r + k))), (3, .int (iI k)), (2, .int (iI tl)), (0, .ref b), (1, .int (iI r))]) dX12_melt_157 rfl (by decide) rfl ?_
        refine tm_goto (tgt := 118) dX12_melt_160 (by decide) ?_
        exact tm_sub [0, 1, 2, 3, 4, 5, 6, 7] rfl (ih _ (by omega) (w + 0) (g + 1) (by omega) (by rw [cnt_s (by omega)]; first | (rw [show lcf σ q g = 0 from lcf_n (by omega)]; omega) | (rw [show lcf σ q g = 0 from lcf_p (by omega) (hP.mp (by omega))]; omega) | (rw [lcf_y (by omega) (fun w => absurd (hP.mpr w) (by omega))]; omega)) rfl)
      · refine tm_aload_n dX12_melt_138 rfl 6 rfl ?_
        refine tm_iload dX12_melt_139 2 rfl ?_
        refine tm_iload dX12_melt_141 0 rfl ?_
        refine tm_callV (M := m_X12_melt) (pc := 143) (ix := 503) (M' := m_X12_isParam) (As := [.int (iI q), .int (iI g)]) (rest := [.int (iI w)]) dX12_melt_143 ok_X12_isParam im_X12_isParam se_X12_isParam ml12_503 np_X12_isParam rfl rfl (Nat.le_of_ble_eq_true rfl) (Nat.le_of_ble_eq_true rfl) rfl (c_X12_isParam (d) (σ := σ) (r := q) (g := g) (by omega) hR hpar (by omega)) (fun r4 σ5 hp => ?_)
        obtain ⟨v6, rfl, rfl, f7, f8⟩ := hp
        show Tm _ _ 146 b σ [(7, .int (iI g)), (6, .int (iI w)), (5, .int (iI q)), (4, .int (iI (220 * r + k))), (3, .int (iI k)), (2, .int (iI tl)), (0, .ref b), (1, .int (iI r))] [.int (iI v6), .int (iI w)] _
        have hP : v6 = 1 ↔ PMQ σ q g := f8
        clear f8
        refine tm_if_ne (tgt := 153) dX12_melt_146 (by decide) ⟨by omega, by omega⟩ (fun h9 => ?_) (fun h9 => ?_)
        · refine tm_iconst dX12_melt_153 ?_
          refine tm_iadd dX12_melt_154 ?_
          refine tm_istore (L' := [(6, .int (iI (w + 0))), (7, .int (iI g)), (5, .int (iI q)), (4, .int (iI (220 * r + k))), (3, .int (iI k)), (2, .int (iI tl)), (0, .ref b), (1, .int (iI r))]) dX12_melt_155 (by decide) rfl ?_
          refine tm_iinc (q0 := 1) (L' := [(7, .int (iI (g + 1))), (6, .int (iI (w + 0))), (5, .int (iI q)), (4, .int (iI (220 * r + k))), (3, .int (iI k)), (2, .int (iI tl)), (0, .ref b), (1, .int (iI r))]) dX12_melt_157 rfl (by decide) rfl ?_
          refine tm_goto (tgt := 118) dX12_melt_160 (by decide) ?_
          exact tm_sub [0, 1, 2, 3, 4, 5, 6, 7] rfl (ih _ (by omega) (w + 0) (g + 1) (by omega) (by rw [cnt_s (by omega)]; first | (rw [show lcf σ q g = 0 from lcf_n (by omega)]; omega) | (rw [show lcf σ q g = 0 from lcf_p (by omega) (hP.mp (by omega))]; omega) | (rw [lcf_y (by omega) (fun w => absurd (hP.mpr w) (by omega))]; omega)) rfl)
        · refine tm_iconst dX12_melt_149 ?_
          refine tm_goto (tgt := 154) dX12_melt_150 (by decide) ?_
          refine tm_iadd dX12_melt_154 ?_
          refine tm_istore (L' := [(6, .int (iI (w + 1))), (7, .int (iI g)), (5, .int (iI q)), (4, .int (iI (220 * r + k))), (3, .int (iI k)), (2, .int (iI tl)), (0, .ref b), (1, .int (iI r))]) dX12_melt_155 (by decide) rfl ?_
          refine tm_iinc (q0 := 1) (L' := [(7, .int (iI (g + 1))), (6, .int (iI (w + 1))), (5, .int (iI q)), (4, .int (iI (220 * r + k))), (3, .int (iI k)), (2, .int (iI tl)), (0, .ref b), (1, .int (iI r))]) dX12_melt_157 rfl (by decide) rfl ?_
          refine tm_goto (tgt := 118) dX12_melt_160 (by decide) ?_
          exact tm_sub [0, 1, 2, 3, 4, 5, 6, 7] rfl (ih _ (by omega) (w + 1) (g + 1) (by omega) (by rw [cnt_s (by omega)]; first | (rw [show lcf σ q g = 0 from lcf_n (by omega)]; omega) | (rw [show lcf σ q g = 0 from lcf_p (by omega) (hP.mp (by omega))]; omega) | (rw [lcf_y (by omega) (fun w => absurd (hP.mpr w) (by omega))]; omega)) rfl)
theorem dX12_melt_166 : decode cX12_melt 166 = .ok (.iload 7, 2) := by decide +kernel
theorem dX12_melt_168 : decode cX12_melt 168 = .ok (.aload_n 0, 1) := by decide +kernel
theorem dX12_melt_169 : decode cX12_melt 169 = .ok (.getfield 32, 3) := by decide +kernel
theorem dX12_melt_172 : decode cX12_melt 172 = .ok (.iload 5, 2) := by decide +kernel
theorem dX12_melt_174 : decode cX12_melt 174 = .ok (.iaload, 1) := by decide +kernel
theorem dX12_melt_175 : decode cX12_melt 175 = .ok (.if_icmp .ge 37, 3) := by decide +kernel
theorem dX12_melt_178 : decode cX12_melt 178 = .ok (.iload 6, 2) := by decide +kernel
theorem dX12_melt_180 : decode cX12_melt 180 = .ok (.aload_n 0, 1) := by decide +kernel
theorem dX12_melt_181 : decode cX12_melt 181 = .ok (.getfield 13, 3) := by decide +kernel
theorem dX12_melt_184 : decode cX12_melt 184 = .ok (.aload_n 0, 1) := by decide +kernel
theorem dX12_melt_185 : decode cX12_melt 185 = .ok (.iload 5, 2) := by decide +kernel
theorem dX12_melt_187 : decode cX12_melt 187 = .ok (.iload 7, 2) := by decide +kernel
theorem dX12_melt_189 : decode cX12_melt 189 = .ok (.invokevirtual 203, 3) := by decide +kernel
theorem dX12_melt_192 : decode cX12_melt 192 = .ok (.iaload, 1) := by decide +kernel
theorem dX12_melt_193 : decode cX12_melt 193 = .ok (.bipush 7, 2) := by decide +kernel
theorem dX12_melt_195 : decode cX12_melt 195 = .ok (.if_icmp .ne 7, 3) := by decide +kernel
theorem dX12_melt_202 : decode cX12_melt 202 = .ok (.iconst 0, 1) := by decide +kernel
theorem dX12_melt_203 : decode cX12_melt 203 = .ok (.iadd, 1) := by decide +kernel
theorem dX12_melt_204 : decode cX12_melt 204 = .ok (.istore 6, 2) := by decide +kernel
theorem dX12_melt_206 : decode cX12_melt 206 = .ok (.iinc 7 1, 3) := by decide +kernel
theorem dX12_melt_209 : decode cX12_melt 209 = .ok (.goto (-43), 3) := by decide +kernel
theorem dX12_melt_198 : decode cX12_melt 198 = .ok (.iconst 1, 1) := by decide +kernel
theorem dX12_melt_199 : decode cX12_melt 199 = .ok (.goto 4, 3) := by decide +kernel
set_option maxHeartbeats 2000000 in
set_option maxRecDepth 20000 in
theorem l_me3 (d : Nat) {b : Nat} {σ : MS} {r : Int} {k : Int} {q : Int} {tl : Int} {W0 : Int} {post : Option Value → MS → Prop} (hq : 0 ≤ q ∧ q < 6) (hR : RG σ) (hn : 0 ≤ σ.2.1 9 q ∧ σ.2.1 9 q ≤ 220) (hx_212 : ∀ (w : Int) (i : Int) , (w = W0 + cnt (rcf σ q) (σ.2.1 9 q).toNat) → Tm (d + 2) m_X12_melt 212 b σ [(6, .int (iI w)), (5, .int (iI q)), (4, .int (iI (220 * r + k))), (3, .int (iI k)), (2, .int (iI tl)), (0, .ref b), (1, .int (iI r))] [] post) : ∀ (n : Nat) (w : Int) (i : Int) , (0 ≤ i ∧ i ≤ σ.2.1 9 q) → (w = W0 + cnt (rcf σ q) i.toNat) → (220 - i).toNat = n → Tm (d + 2) m_X12_melt 166 b σ [(7, .int (iI i)), (6, .int (iI w)), (5, .int (iI q)), (4, .int (iI (220 * r + k))), (3, .int (iI k)), (2, .int (iI tl)), (0, .ref b), (1, .int (iI r))] [] post := by
  intro n
  induction n using Nat.strongRecOn with
  | _ n ih =>
    intro w i h0 hc hm
    refine tm_iload dX12_melt_166 0 rfl ?_
    refine tm_aload_n dX12_melt_168 rfl 6 rfl ?_
    refine tm_get (k := 9) (v := .ref (b + 1 + 7)) lay_12 dX12_melt_169 (by decide) fl12_32 rfl ?_
    refine tm_iload dX12_melt_172 2 rfl ?_
    refine tm_iald (z := q) (v := σ.2.1 9 q) dX12_melt_174 (show mT[7]? = some (9, 0, 13) from rfl) (by omega) (by omega) (by decide) (rfl) ?_
    have g1 := RG.a hR 9 (q)
    refine tm_icmp_ge (tgt := 212) dX12_melt_175 (by decide) ⟨by omega, by omega⟩ ⟨by omega, by omega⟩ (fun h2 => ?_) (fun h2 => ?_)
    · exact tm_sub [1, 2, 3, 4, 5, 6, 7] rfl (hx_212 (w) (0) (by rw [show i = σ.2.1 9 q by omega] at hc; exact hc))
    · refine tm_iload dX12_melt_178 1 rfl ?_
      refine tm_aload_n dX12_melt_180 rfl 6 rfl ?_
      refine tm_get (k := 3) (v := .ref (b + 1 + 1)) lay_12 dX12_melt_181 (by decide) fl12_13 rfl ?_
      refine tm_aload_n dX12_melt_184 rfl 6 rfl ?_
      refine tm_iload dX12_melt_185 2 rfl ?_
      refine tm_iload dX12_melt_187 0 rfl ?_
      refine tm_callV (M := m_X12_melt) (pc := 189) (ix := 203) (M' := m_X12_at) (As := [.int (iI q), .int (iI i)]) (rest := [.ref (b + 1 + 1), .int (iI w)]) dX12_melt_189 ok_X12_at im_X12_at se_X12_at ml12_203 np_X12_at rfl rfl (Nat.le_of_ble_eq_true rfl) (Nat.le_of_ble_eq_true rfl) rfl (c_X12_at (d) (σ := σ) (x := q) (k := i) ) (fun r3 σ4 hp => ?_)
      obtain ⟨v5, rfl, rfl, f6⟩ := hp
      subst f6
      show Tm _ _ 192 b σ [(7, .int (iI i)), (6, .int (iI w)), (5, .int (iI q)), (4, .int (iI (220 * r + k))), (3, .int (iI k)), (2, .int (iI tl)), (0, .ref b), (1, .int (iI r))] [.int (iI (220 * q + i)), .ref (b + 1 + 1), .int (iI w)] _
      refine tm_iald (z := 220 * q + i) (v := σ.2.1 3 (220 * q + i)) dX12_melt_192 (show mT[1]? = some (3, 0, 2860) from rfl) (by omega) (by omega) (by decide) (rfl) ?_
      have g7 := RG.a hR 3 (220 * q + i)
      refine tm_bipush dX12_melt_193 (by decide) ?_
      refine tm_icmp_ne (tgt := 202) dX12_melt_195 (by decide) ⟨by omega, by omega⟩ ⟨by decide, by decide⟩ (fun h8 => ?_) (fun h8 => ?_)
      · refine tm_iconst dX12_melt_202 ?_
        refine tm_iadd dX12_melt_203 ?_
        refine tm_istore (L' := [(6, .int (iI (w + 0))), (7, .int (iI i)), (5, .int (iI q)), (4, .int (iI (220 * r + k))), (3, .int (iI k)), (2, .int (iI tl)), (0, .ref b), (1, .int (iI r))]) dX12_melt_204 (by decide) rfl ?_
        refine tm_iinc (q0 := 1) (L' := [(7, .int (iI (i + 1))), (6, .int (iI (w + 0))), (5, .int (iI q)), (4, .int (iI (220 * r + k))), (3, .int (iI k)), (2, .int (iI tl)), (0, .ref b), (1, .int (iI r))]) dX12_melt_206 rfl (by decide) rfl ?_
        refine tm_goto (tgt := 166) dX12_melt_209 (by decide) ?_
        exact tm_sub [0, 1, 2, 3, 4, 5, 6, 7] rfl (ih _ (by omega) (w + 0) (i + 1) (by omega) (by rw [cnt_s (by omega), show rcf σ q i = (if σ.2.1 3 (220 * q + i) = 7 then 1 else 0) from rfl]; split <;> omega) rfl)
      · refine tm_iconst dX12_melt_198 ?_
        refine tm_goto (tgt := 203) dX12_melt_199 (by decide) ?_
        refine tm_iadd dX12_melt_203 ?_
        refine tm_istore (L' := [(6, .int (iI (w + 1))), (7, .int (iI i)), (5, .int (iI q)), (4, .int (iI (220 * r + k))), (3, .int (iI k)), (2, .int (iI tl)), (0, .ref b), (1, .int (iI r))]) dX12_melt_204 (by decide) rfl ?_
        refine tm_iinc (q0 := 1) (L' := [(7, .int (iI (i + 1))), (6, .int (iI (w + 1))), (5, .int (iI q)), (4, .int (iI (220 * r + k))), (3, .int (iI k)), (2, .int (iI tl)), (0, .ref b), (1, .int (iI r))]) dX12_melt_206 rfl (by decide) rfl ?_
        refine tm_goto (tgt := 166) dX12_melt_209 (by decide) ?_
        exact tm_sub [0, 1, 2, 3, 4, 5, 6, 7] rfl (ih _ (by omega) (w + 1) (i + 1) (by omega) (by rw [cnt_s (by omega), show rcf σ q i = (if σ.2.1 3 (220 * q + i) = 7 then 1 else 0) from rfl]; split <;> omega) rfl)
theorem ml12_500 : Cond.methodLink RX12 500 yX12_hasCall ∈ pWW := pw9 (List.mem_of_getElem? (i := 185) rfl) rfl
theorem ml12_506 : Cond.methodLink RX12 506 yX12_meltOne ∈ pWW := pw9 (List.mem_of_getElem? (i := 193) rfl) rfl
theorem dX12_melt_4 : decode cX12_melt 4 = .ok (.iload_n 3, 1) := by decide +kernel
theorem dX12_melt_5 : decode cX12_melt 5 = .ok (.aload_n 0, 1) := by decide +kernel
theorem dX12_melt_6 : decode cX12_melt 6 = .ok (.getfield 32, 3) := by decide +kernel
theorem dX12_melt_9 : decode cX12_melt 9 = .ok (.iload_n 1, 1) := by decide +kernel
theorem dX12_melt_10 : decode cX12_melt 10 = .ok (.iaload, 1) := by decide +kernel
theorem dX12_melt_11 : decode cX12_melt 11 = .ok (.if_icmp .ge 266, 3) := by decide +kernel
theorem dX12_melt_14 : decode cX12_melt 14 = .ok (.aload_n 0, 1) := by decide +kernel
theorem dX12_melt_15 : decode cX12_melt 15 = .ok (.iload_n 1, 1) := by decide +kernel
theorem dX12_melt_16 : decode cX12_melt 16 = .ok (.iload_n 3, 1) := by decide +kernel
theorem dX12_melt_17 : decode cX12_melt 17 = .ok (.invokevirtual 203, 3) := by decide +kernel
theorem dX12_melt_20 : decode cX12_melt 20 = .ok (.istore 4, 2) := by decide +kernel
theorem dX12_melt_22 : decode cX12_melt 22 = .ok (.aload_n 0, 1) := by decide +kernel
theorem dX12_melt_23 : decode cX12_melt 23 = .ok (.getfield 20, 3) := by decide +kernel
theorem dX12_melt_26 : decode cX12_melt 26 = .ok (.iload 4, 2) := by decide +kernel
theorem dX12_melt_28 : decode cX12_melt 28 = .ok (.iaload, 1) := by decide +kernel
theorem dX12_melt_29 : decode cX12_melt 29 = .ok (.istore 5, 2) := by decide +kernel
theorem dX12_melt_31 : decode cX12_melt 31 = .ok (.aload_n 0, 1) := by decide +kernel
theorem dX12_melt_32 : decode cX12_melt 32 = .ok (.getfield 13, 3) := by decide +kernel
theorem dX12_melt_35 : decode cX12_melt 35 = .ok (.iload 4, 2) := by decide +kernel
theorem dX12_melt_37 : decode cX12_melt 37 = .ok (.iaload, 1) := by decide +kernel
theorem dX12_melt_38 : decode cX12_melt 38 = .ok (.bipush 10, 2) := by decide +kernel
theorem dX12_melt_40 : decode cX12_melt 40 = .ok (.if_icmp .ne 29, 3) := by decide +kernel
theorem dX12_melt_69 : decode cX12_melt 69 = .ok (.iinc 3 1, 3) := by decide +kernel
theorem dX12_melt_72 : decode cX12_melt 72 = .ok (.goto (-68), 3) := by decide +kernel
theorem dX12_melt_43 : decode cX12_melt 43 = .ok (.iload 5, 2) := by decide +kernel
theorem dX12_melt_45 : decode cX12_melt 45 = .ok (.iload_n 1, 1) := by decide +kernel
theorem dX12_melt_46 : decode cX12_melt 46 = .ok (.if_icmp .eq 23, 3) := by decide +kernel
theorem dX12_melt_49 : decode cX12_melt 49 = .ok (.aload_n 0, 1) := by decide +kernel
theorem dX12_melt_50 : decode cX12_melt 50 = .ok (.iload 5, 2) := by decide +kernel
theorem dX12_melt_52 : decode cX12_melt 52 = .ok (.invokevirtual 500, 3) := by decide +kernel
theorem dX12_melt_55 : decode cX12_melt 55 = .ok (.ifCond .ne 14, 3) := by decide +kernel
theorem dX12_melt_58 : decode cX12_melt 58 = .ok (.aload_n 0, 1) := by decide +kernel
theorem dX12_melt_59 : decode cX12_melt 59 = .ok (.iload 5, 2) := by decide +kernel
theorem dX12_melt_61 : decode cX12_melt 61 = .ok (.invokevirtual 407, 3) := by decide +kernel
theorem dX12_melt_64 : decode cX12_melt 64 = .ok (.bipush 20, 2) := by decide +kernel
theorem dX12_melt_66 : decode cX12_melt 66 = .ok (.if_icmp .le 9, 3) := by decide +kernel
theorem dX12_melt_75 : decode cX12_melt 75 = .ok (.aload_n 0, 1) := by decide +kernel
theorem dX12_melt_76 : decode cX12_melt 76 = .ok (.iload 5, 2) := by decide +kernel
theorem dX12_melt_78 : decode cX12_melt 78 = .ok (.invokevirtual 475, 3) := by decide +kernel
theorem dX12_melt_81 : decode cX12_melt 81 = .ok (.aload_n 0, 1) := by decide +kernel
theorem dX12_melt_82 : decode cX12_melt 82 = .ok (.getfield 32, 3) := by decide +kernel
theorem dX12_melt_85 : decode cX12_melt 85 = .ok (.iload_n 1, 1) := by decide +kernel
theorem dX12_melt_86 : decode cX12_melt 86 = .ok (.iaload, 1) := by decide +kernel
theorem dX12_melt_87 : decode cX12_melt 87 = .ok (.iconst 2, 1) := by decide +kernel
theorem dX12_melt_88 : decode cX12_melt 88 = .ok (.iadd, 1) := by decide +kernel
theorem dX12_melt_89 : decode cX12_melt 89 = .ok (.aload_n 0, 1) := by decide +kernel
theorem dX12_melt_90 : decode cX12_melt 90 = .ok (.getfield 35, 3) := by decide +kernel
theorem dX12_melt_93 : decode cX12_melt 93 = .ok (.iload 5, 2) := by decide +kernel
theorem dX12_melt_95 : decode cX12_melt 95 = .ok (.iaload, 1) := by decide +kernel
theorem dX12_melt_96 : decode cX12_melt 96 = .ok (.iadd, 1) := by decide +kernel
theorem dX12_melt_97 : decode cX12_melt 97 = .ok (.aload_n 0, 1) := by decide +kernel
theorem dX12_melt_98 : decode cX12_melt 98 = .ok (.getfield 38, 3) := by decide +kernel
theorem dX12_melt_101 : decode cX12_melt 101 = .ok (.iload 5, 2) := by decide +kernel
theorem dX12_melt_103 : decode cX12_melt 103 = .ok (.iaload, 1) := by decide +kernel
theorem dX12_melt_104 : decode cX12_melt 104 = .ok (.iadd, 1) := by decide +kernel
theorem dX12_melt_105 : decode cX12_melt 105 = .ok (.aload_n 0, 1) := by decide +kernel
theorem dX12_melt_106 : decode cX12_melt 106 = .ok (.getfield 32, 3) := by decide +kernel
theorem dX12_melt_109 : decode cX12_melt 109 = .ok (.iload 5, 2) := by decide +kernel
theorem dX12_melt_111 : decode cX12_melt 111 = .ok (.iaload, 1) := by decide +kernel
theorem dX12_melt_112 : decode cX12_melt 112 = .ok (.iadd, 1) := by decide +kernel
theorem dX12_melt_113 : decode cX12_melt 113 = .ok (.istore 6, 2) := by decide +kernel
theorem dX12_melt_115 : decode cX12_melt 115 = .ok (.iconst 0, 1) := by decide +kernel
theorem dX12_melt_116 : decode cX12_melt 116 = .ok (.istore 7, 2) := by decide +kernel
theorem dX12_melt_163 : decode cX12_melt 163 = .ok (.iconst 0, 1) := by decide +kernel
theorem dX12_melt_164 : decode cX12_melt 164 = .ok (.istore 7, 2) := by decide +kernel
theorem dX12_melt_212 : decode cX12_melt 212 = .ok (.iload 6, 2) := by decide +kernel
theorem dX12_melt_214 : decode cX12_melt 214 = .ok (.sipush 200, 3) := by decide +kernel
theorem dX12_melt_217 : decode cX12_melt 217 = .ok (.if_icmp .gt 39, 3) := by decide +kernel
theorem dX12_melt_256 : decode cX12_melt 256 = .ok (.iinc 3 1, 3) := by decide +kernel
theorem dX12_melt_259 : decode cX12_melt 259 = .ok (.goto (-255), 3) := by decide +kernel
theorem dX12_melt_220 : decode cX12_melt 220 = .ok (.aload_n 0, 1) := by decide +kernel
theorem dX12_melt_221 : decode cX12_melt 221 = .ok (.iload_n 1, 1) := by decide +kernel
theorem dX12_melt_222 : decode cX12_melt 222 = .ok (.invokevirtual 410, 3) := by decide +kernel
theorem dX12_melt_225 : decode cX12_melt 225 = .ok (.aload_n 0, 1) := by decide +kernel
theorem dX12_melt_226 : decode cX12_melt 226 = .ok (.iload 5, 2) := by decide +kernel
theorem dX12_melt_228 : decode cX12_melt 228 = .ok (.invokevirtual 410, 3) := by decide +kernel
theorem dX12_melt_231 : decode cX12_melt 231 = .ok (.iadd, 1) := by decide +kernel
theorem dX12_melt_232 : decode cX12_melt 232 = .ok (.bipush 100, 2) := by decide +kernel
theorem dX12_melt_234 : decode cX12_melt 234 = .ok (.if_icmp .gt 22, 3) := by decide +kernel
theorem dX12_melt_237 : decode cX12_melt 237 = .ok (.aload_n 0, 1) := by decide +kernel
theorem dX12_melt_238 : decode cX12_melt 238 = .ok (.getfield 44, 3) := by decide +kernel
theorem dX12_melt_241 : decode cX12_melt 241 = .ok (.iload_n 1, 1) := by decide +kernel
theorem dX12_melt_242 : decode cX12_melt 242 = .ok (.iaload, 1) := by decide +kernel
theorem dX12_melt_243 : decode cX12_melt 243 = .ok (.aload_n 0, 1) := by decide +kernel
theorem dX12_melt_244 : decode cX12_melt 244 = .ok (.getfield 44, 3) := by decide +kernel
theorem dX12_melt_247 : decode cX12_melt 247 = .ok (.iload 5, 2) := by decide +kernel
theorem dX12_melt_249 : decode cX12_melt 249 = .ok (.iaload, 1) := by decide +kernel
theorem dX12_melt_250 : decode cX12_melt 250 = .ok (.iadd, 1) := by decide +kernel
theorem dX12_melt_251 : decode cX12_melt 251 = .ok (.bipush 12, 2) := by decide +kernel
theorem dX12_melt_253 : decode cX12_melt 253 = .ok (.if_icmp .le 9, 3) := by decide +kernel
theorem dX12_melt_262 : decode cX12_melt 262 = .ok (.aload_n 0, 1) := by decide +kernel
theorem dX12_melt_263 : decode cX12_melt 263 = .ok (.iload_n 1, 1) := by decide +kernel
theorem dX12_melt_264 : decode cX12_melt 264 = .ok (.iload_n 3, 1) := by decide +kernel
theorem dX12_melt_265 : decode cX12_melt 265 = .ok (.iload 5, 2) := by decide +kernel
theorem dX12_melt_267 : decode cX12_melt 267 = .ok (.invokevirtual 506, 3) := by decide +kernel
theorem dX12_melt_270 : decode cX12_melt 270 = .ok (.istore_n 3, 1) := by decide +kernel
theorem dX12_melt_271 : decode cX12_melt 271 = .ok (.iinc 2 1, 3) := by decide +kernel
theorem dX12_melt_274 : decode cX12_melt 274 = .ok (.goto (-270), 3) := by decide +kernel
set_option maxHeartbeats 2000000 in
set_option maxRecDepth 20000 in
theorem l_me1 (d : Nat) {b : Nat} {σ0 : MS} {r : Int} {post : Option Value → MS → Prop} (hr : 0 ≤ r ∧ r < σ0.1 10) (hR0 : RG σ0) (hit : ITM σ0) (hpar : PAR σ0) (hnam : NAM σ0) (hx_277 : ∀ (tl : Int) (k : Int) (σ : MS) , (Fr [62] [3, 4, 5, 6, 7, 8, 9, 14, 15, 16, 17, 18, 46, 59] [] σ0 σ) → (RG σ) → (GDA σ) → (LAB σ) → (BO 59 σ) → (∀ j, j ≠ r → σ.2.1 9 j = σ0.2.1 9 j) → (XR r σ0 σ) → Tm (d + 7) m_X12_melt 277 b σ [(3, .int (iI k)), (2, .int (iI tl)), (0, .ref b), (1, .int (iI r))] [] post) : ∀ (n : Nat) (tl : Int) (k : Int) (σ : MS) , (Fr [62] [3, 4, 5, 6, 7, 8, 9, 14, 15, 16, 17, 18, 46, 59] [] σ0 σ) → (RG σ) → (0 ≤ k ∧ k ≤ σ.2.1 9 r) → (GDA σ) → (LAB σ) → (BO 59 σ) → (∀ j, j ≠ r → σ.2.1 9 j = σ0.2.1 9 j) → (XR r σ0 σ) → (σ.2.1 9 r - k).toNat = n → Tm (d + 7) m_X12_melt 4 b σ [(3, .int (iI k)), (2, .int (iI tl)), (0, .ref b), (1, .int (iI r))] [] post := by
  intro n
  induction n using Nat.strongRecOn with
  | _ n ih =>
    intro tl k σ hF hR h0 hgd hl hbl hx9 hxr hm
    have e10 : σ.1 10 = σ0.1 10 := hF.1 10 (by decide)
    have hr6 := hgd.1
    have gr := hgd.2 r (by omega) (by omega)
    have gr9 := gr.1
    have gof := gr.2.1.1
    have hpar1 := hpar.fr hF (by decide)
    have hnam1 := hnam.fr hF (by decide)
    have hit1 : ITM σ := fun j a c => by
          by_cases q : j = r
          · rw [q]; omega
          · rw [hx9 j q]; exact hit j a c
    refine tm_iload_n dX12_melt_4 rfl 0 rfl ?_
    refine tm_aload_n dX12_melt_5 rfl 2 rfl ?_
    refine tm_get (k := 9) (v := .ref (b + 1 + 7)) lay_12 dX12_melt_6 (by decide) fl12_32 rfl ?_
    refine tm_iload_n dX12_melt_9 rfl 3 rfl ?_
    refine tm_iald (z := r) (v := σ.2.1 9 r) dX12_melt_10 (show mT[7]? = some (9, 0, 13) from rfl) (by omega) (by omega) (by decide) (rfl) ?_
    have g1 := RG.a hR 9 (r)
    refine tm_icmp_ge (tgt := 277) dX12_melt_11 (by decide) ⟨by omega, by omega⟩ ⟨by omega, by omega⟩ (fun h2 => ?_) (fun h2 => ?_)
    · exact tm_sub [0, 1, 2, 3] rfl (hx_277 (tl) (k) σ (Fr.rfl.trans (Fr.sub hF (by decide) (by decide) (by decide))) hR hgd hl hbl hx9 hxr)
    · refine tm_aload_n dX12_melt_14 rfl 2 rfl ?_
      refine tm_iload_n dX12_melt_15 rfl 3 rfl ?_
      refine tm_iload_n dX12_melt_16 rfl 0 rfl ?_
      refine tm_callV (M := m_X12_melt) (pc := 17) (ix := 203) (M' := m_X12_at) (As := [.int (iI r), .int (iI k)]) (rest := []) dX12_melt_17 ok_X12_at im_X12_at se_X12_at ml12_203 np_X12_at rfl rfl (Nat.le_of_ble_eq_true rfl) (Nat.le_of_ble_eq_true rfl) rfl (c_X12_at (d + 5) (σ := σ) (x := r) (k := k) ) (fun r3 σ4 hp => ?_)
      obtain ⟨v5, rfl, rfl, f6⟩ := hp
      subst f6
      show Tm _ _ 20 b σ [(3, .int (iI k)), (2, .int (iI tl)), (0, .ref b), (1, .int (iI r))] [.int (iI (220 * r + k))] _
      refine tm_istore (L' := [(4, .int (iI (220 * r + k))), (3, .int (iI k)), (2, .int (iI tl)), (0, .ref b), (1, .int (iI r))]) dX12_melt_20 (by decide) rfl ?_
      refine tm_aload_n dX12_melt_22 rfl 3 rfl ?_
      refine tm_get (k := 5) (v := .ref (b + 1 + 3)) lay_12 dX12_melt_23 (by decide) fl12_20 rfl ?_
      refine tm_iload dX12_melt_26 0 rfl ?_
      refine tm_iald (z := 220 * r + k) (v := σ.2.1 5 (220 * r + k)) dX12_melt_28 (show mT[3]? = some (5, 0, 2860) from rfl) (by omega) (by omega) (by decide) (rfl) ?_
      have g7 := RG.a hR 5 (220 * r + k)
      refine tm_istore (L' := [(5, .int (iI (σ.2.1 5 (220 * r + k)))), (4, .int (iI (220 * r + k))), (3, .int (iI k)), (2, .int (iI tl)), (0, .ref b), (1, .int (iI r))]) dX12_melt_29 (by decide) rfl ?_
      refine tm_aload_n dX12_melt_31 rfl 4 rfl ?_
      refine tm_get (k := 3) (v := .ref (b + 1 + 1)) lay_12 dX12_melt_32 (by decide) fl12_13 rfl ?_
      refine tm_iload dX12_melt_35 1 rfl ?_
      refine tm_iald (z := 220 * r + k) (v := σ.2.1 3 (220 * r + k)) dX12_melt_37 (show mT[1]? = some (3, 0, 2860) from rfl) (by omega) (by omega) (by decide) (rfl) ?_
      have g8 := RG.a hR 3 (220 * r + k)
      refine tm_bipush dX12_melt_38 (by decide) ?_
      refine tm_icmp_ne (tgt := 69) dX12_melt_40 (by decide) ⟨by omega, by omega⟩ ⟨by decide, by decide⟩ (fun h9 => ?_) (fun h9 => ?_)
      · refine tm_iinc (q0 := 2) (L' := [(3, .int (iI (k + 1))), (5, .int (iI (σ.2.1 5 (220 * r + k)))), (4, .int (iI (220 * r + k))), (2, .int (iI tl)), (0, .ref b), (1, .int (iI r))]) dX12_melt_69 rfl (by decide) rfl ?_
        refine tm_goto (tgt := 4) dX12_melt_72 (by decide) ?_
        exact tm_sub [0, 3, 4, 5] rfl (ih _ (by first | omega | (rw [e9]; omega)) (tl) (k + 1) σ (Fr.rfl.trans (Fr.sub hF (by decide) (by decide) (by decide))) hR (by omega) hgd hl hbl hx9 hxr rfl)
      · refine tm_iload dX12_melt_43 0 rfl ?_
        refine tm_iload_n dX12_melt_45 rfl 5 rfl ?_
        refine tm_icmp_eq (tgt := 69) dX12_melt_46 (by decide) ⟨by omega, by omega⟩ ⟨by omega, by omega⟩ (fun h10 => ?_) (fun h10 => ?_)
        · refine tm_iinc (q0 := 2) (L' := [(3, .int (iI (k + 1))), (5, .int (iI (σ.2.1 5 (220 * r + k)))), (4, .int (iI (220 * r + k))), (2, .int (iI tl)), (0, .ref b), (1, .int (iI r))]) dX12_melt_69 rfl (by decide) rfl ?_
          refine tm_goto (tgt := 4) dX12_melt_72 (by decide) ?_
          exact tm_sub [0, 3, 4, 5] rfl (ih _ (by first | omega | (rw [e9]; omega)) (tl) (k + 1) σ (Fr.rfl.trans (Fr.sub hF (by decide) (by decide) (by decide))) hR (by omega) hgd hl hbl hx9 hxr rfl)
        · have hcl := gr.call (k := k) (by omega) (by omega)
          have gq := hgd.2 _ hcl.1 hcl.2
          have b9q0 := gq.1
          refine tm_aload_n dX12_melt_49 rfl 4 rfl ?_
          refine tm_iload dX12_melt_50 0 rfl ?_
          refine tm_callV (M := m_X12_melt) (pc := 52) (ix := 500) (M' := m_X12_hasCall) (As := [.int (iI (σ.2.1 5 (220 * r + k)))]) (rest := []) dX12_melt_52 ok_X12_hasCall im_X12_hasCall se_X12_hasCall ml12_500 np_X12_hasCall rfl rfl (Nat.le_of_ble_eq_true rfl) (Nat.le_of_ble_eq_true rfl) rfl (c_X12_hasCall (d + 3) (σ := σ) (r := σ.2.1 5 (220 * r + k)) (by omega) hR hit1) (fun r11 σ12 hp => ?_)
          obtain ⟨v13, rfl, rfl, f14, f15⟩ := hp
          show Tm _ _ 55 b σ [(5, .int (iI (σ.2.1 5 (220 * r + k)))), (4, .int (iI (220 * r + k))), (3, .int (iI k)), (2, .int (iI tl)), (0, .ref b), (1, .int (iI r))] [.int (iI v13)] _
          have hnc := f15
          refine tm_if_ne (tgt := 69) dX12_melt_55 (by decide) ⟨by omega, by omega⟩ (fun h16 => ?_) (fun h16 => ?_)
          · refine tm_iinc (q0 := 2) (L' := [(3, .int (iI (k + 1))), (5, .int (iI (σ.2.1 5 (220 * r + k)))), (4, .int (iI (220 * r + k))), (2, .int (iI tl)), (0, .ref b), (1, .int (iI r))]) dX12_melt_69 rfl (by decide) rfl ?_
            refine tm_goto (tgt := 4) dX12_melt_72 (by decide) ?_
            exact tm_sub [0, 3, 4, 5] rfl (ih _ (by first | omega | (rw [e9]; omega)) (tl) (k + 1) σ (Fr.rfl.trans (Fr.sub hF (by decide) (by decide) (by decide))) hR (by omega) hgd hl hbl hx9 hxr rfl)
          · refine tm_aload_n dX12_melt_58 rfl 4 rfl ?_
            refine tm_iload dX12_melt_59 0 rfl ?_
            refine tm_callV (M := m_X12_melt) (pc := 61) (ix := 407) (M' := m_X12_acts) (As := [.int (iI (σ.2.1 5 (220 * r + k)))]) (rest := []) dX12_melt_61 ok_X12_acts im_X12_acts se_X12_acts ml12_407 np_X12_acts rfl rfl (Nat.le_of_ble_eq_true rfl) (Nat.le_of_ble_eq_true rfl) rfl (c_X12_acts (d + 3) (σ := σ) (r := σ.2.1 5 (220 * r + k)) (by omega) hR hit1) (fun r17 σ18 hp => ?_)
            obtain ⟨v19, rfl, rfl, f20⟩ := hp
            show Tm _ _ 64 b σ [(5, .int (iI (σ.2.1 5 (220 * r + k)))), (4, .int (iI (220 * r + k))), (3, .int (iI k)), (2, .int (iI tl)), (0, .ref b), (1, .int (iI r))] [.int (iI v19)] _
            refine tm_bipush dX12_melt_64 (by decide) ?_
            refine tm_icmp_le (tgt := 75) dX12_melt_66 (by decide) ⟨by omega, by omega⟩ ⟨by decide, by decide⟩ (fun h21 => ?_) (fun h21 => ?_)
            · refine tm_aload_n dX12_melt_75 rfl 4 rfl ?_
              refine tm_iload dX12_melt_76 0 rfl ?_
              refine tm_callV (M := m_X12_melt) (pc := 78) (ix := 475) (M' := m_X12_findLives) (As := [.int (iI (σ.2.1 5 (220 * r + k)))]) (rest := []) dX12_melt_78 ok_X12_findLives im_X12_findLives se_X12_findLives ml12_475 np_X12_findLives rfl rfl (Nat.le_of_ble_eq_true rfl) (Nat.le_of_ble_eq_true rfl) rfl (c2_X12_findLives (d + 1) (σ := σ) (r := σ.2.1 5 (220 * r + k)) (F := (σ.2.1 14 (σ.2.1 5 (220 * r + k)))) (by omega) hR hit1 hpar1 gq.2.2.1 hl hbl gq.2.2.2.2.1) (fun r22 σ23 hp => ?_)
              obtain ⟨rfl, f25, f26, f27, f28, f29, f30⟩ := hp
              show Tm _ _ 81 b σ23 [(5, .int (iI (σ.2.1 5 (220 * r + k)))), (4, .int (iI (220 * r + k))), (3, .int (iI k)), (2, .int (iI tl)), (0, .ref b), (1, .int (iI r))] [] _
              have f1 := f25
              have hl1 := f27
              have hbl1 := f28
              have hlv1 := f30
              have hgd1 := hgd.fr f1 (by decide) (by decide)
              have gr1 := gr.fr f1 (by decide) (by decide)
              have gq1 := gq.fr f1 (by decide) (by decide)
              have hit2 := hit1.fr f1 (by decide)
              have hpar2 := hpar1.fr f1 (by decide)
              have hnam2 := hnam1.fr f1 (by decide)
              have e9 : σ23.2.1 9 = σ.2.1 9 := f1.2.1 9 (by decide)
              have mpa := hpar2 (σ.2.1 5 (220 * r + k)) (by omega) (by omega)
              have mna := hnam2 (σ.2.1 5 (220 * r + k)) (by omega) (by omega)
              have b9q := gq1.1
              have b9r := gr1.1
              have b14q := gq1.2.1.1
              have b14r := gr1.2.1.1
              have hl0 := cnt_up (lcf_0 σ23 (σ.2.1 5 (220 * r + k))) (show 0 ≤ 192 by decide)
              have hr0 := cnt_up (rcf_0 σ23 (σ.2.1 5 (220 * r + k))) (show 0 ≤ (σ23.2.1 9 (σ.2.1 5 (220 * r + k))).toNat by omega)
              have hz1 : cnt (lcf σ23 (σ.2.1 5 (220 * r + k))) 0 = 0 := rfl
              have hz2 : cnt (rcf σ23 (σ.2.1 5 (220 * r + k))) 0 = 0 := rfl
              have hl9 := cnt_le (lcf_1 σ23 (σ.2.1 5 (220 * r + k))) 192
              have hr9 := cnt_le (rcf_1 σ23 (σ.2.1 5 (220 * r + k))) (σ23.2.1 9 (σ.2.1 5 (220 * r + k))).toNat
              have mpa0 := hpar (σ.2.1 5 (220 * r + k)) (by omega) (by omega)
              have mna0 := hnam (σ.2.1 5 (220 * r + k)) (by omega) (by omega)
              have e11q : σ23.2.1 11 (σ.2.1 5 (220 * r + k)) = σ0.2.1 11 (σ.2.1 5 (220 * r + k)) := by rw [f1.2.1 11 (by decide), hF.2.1 11 (by decide)]
              have e12q : σ23.2.1 12 (σ.2.1 5 (220 * r + k)) = σ0.2.1 12 (σ.2.1 5 (220 * r + k)) := by rw [f1.2.1 12 (by decide), hF.2.1 12 (by decide)]
              have e9r : σ23.2.1 9 r = σ.2.1 9 r := by rw [e9]
              have e9q : σ23.2.1 9 (σ.2.1 5 (220 * r + k)) = σ.2.1 9 (σ.2.1 5 (220 * r + k)) := by rw [e9]
              have e14r : σ23.2.1 14 r = σ.2.1 14 r := by rw [f1.2.1 14 (by decide)]
              have e14q : σ23.2.1 14 (σ.2.1 5 (220 * r + k)) = σ.2.1 14 (σ.2.1 5 (220 * r + k)) := by rw [f1.2.1 14 (by decide)]
              refine tm_aload_n dX12_melt_81 rfl 4 rfl ?_
              refine tm_get (k := 9) (v := .ref (b + 1 + 7)) lay_12 dX12_melt_82 (by decide) fl12_32 rfl ?_
              refine tm_iload_n dX12_melt_85 rfl 5 rfl ?_
              refine tm_iald (z := r) (v := σ.2.1 9 r) dX12_melt_86 (show mT[7]? = some (9, 0, 13) from rfl) (by omega) (by omega) (by decide) (ra_F f25 (by decide) (rfl)) ?_
              have g31 := RG.a hR 9 (r)
              refine tm_iconst dX12_melt_87 ?_
              refine tm_iadd dX12_melt_88 ?_
              refine tm_aload_n dX12_melt_89 rfl 4 rfl ?_
              refine tm_get (k := 11) (v := .ref (b + 1 + 8)) lay_12 dX12_melt_90 (by decide) fl12_35 rfl ?_
              refine tm_iload dX12_melt_93 0 rfl ?_
              refine tm_iald (z := σ.2.1 5 (220 * r + k)) (v := σ0.2.1 11 (σ.2.1 5 (220 * r + k))) dX12_melt_95 (show mT[8]? = some (11, 0, 6) from rfl) (by omega) (by omega) (by decide) (ra_F f25 (by decide) (ra_F hF (by decide) (rfl))) ?_
              have g32 := RG.a hR0 11 (σ.2.1 5 (220 * r + k))
              refine tm_iadd dX12_melt_96 ?_
              refine tm_aload_n dX12_melt_97 rfl 4 rfl ?_
              refine tm_get (k := 12) (v := .ref (b + 1 + 9)) lay_12 dX12_melt_98 (by decide) fl12_38 rfl ?_
              refine tm_iload dX12_melt_101 0 rfl ?_
              refine tm_iald (z := σ.2.1 5 (220 * r + k)) (v := σ0.2.1 12 (σ.2.1 5 (220 * r + k))) dX12_melt_103 (show mT[9]? = some (12, 0, 6) from rfl) (by omega) (by omega) (by decide) (ra_F f25 (by decide) (ra_F hF (by decide) (rfl))) ?_
              have g33 := RG.a hR0 12 (σ.2.1 5 (220 * r + k))
              refine tm_iadd dX12_melt_104 ?_
              refine tm_aload_n dX12_melt_105 rfl 4 rfl ?_
              refine tm_get (k := 9) (v := .ref (b + 1 + 7)) lay_12 dX12_melt_106 (by decide) fl12_32 rfl ?_
              refine tm_iload dX12_melt_109 0 rfl ?_
              refine tm_iald (z := σ.2.1 5 (220 * r + k)) (v := σ.2.1 9 (σ.2.1 5 (220 * r + k))) dX12_melt_111 (show mT[7]? = some (9, 0, 13) from rfl) (by omega) (by omega) (by decide) (ra_F f25 (by decide) (rfl)) ?_
              have g34 := RG.a hR 9 (σ.2.1 5 (220 * r + k))
              refine tm_iadd dX12_melt_112 ?_
              refine tm_istore (L' := [(6, .int (iI (((((σ.2.1 9 r) + 2) + (σ0.2.1 11 (σ.2.1 5 (220 * r + k)))) + (σ0.2.1 12 (σ.2.1 5 (220 * r + k)))) + (σ.2.1 9 (σ.2.1 5 (220 * r + k)))))), (5, .int (iI (σ.2.1 5 (220 * r + k)))), (4, .int (iI (220 * r + k))), (3, .int (iI k)), (2, .int (iI tl)), (0, .ref b), (1, .int (iI r))]) dX12_melt_113 (by decide) rfl ?_
              refine tm_iconst dX12_melt_115 ?_
              refine tm_istore (L' := [(7, .int (iI 0)), (6, .int (iI (((((σ.2.1 9 r) + 2) + (σ0.2.1 11 (σ.2.1 5 (220 * r + k)))) + (σ0.2.1 12 (σ.2.1 5 (220 * r + k)))) + (σ.2.1 9 (σ.2.1 5 (220 * r + k)))))), (5, .int (iI (σ.2.1 5 (220 * r + k)))), (4, .int (iI (220 * r + k))), (3, .int (iI k)), (2, .int (iI tl)), (0, .ref b), (1, .int (iI r))]) dX12_melt_116 (by decide) rfl ?_
              refine tm_sub [0, 1, 2, 3, 4, 5, 6, 7] rfl (l_me2 (d + 5) (σ := σ23) (r := r) (k := k) (q := σ.2.1 5 (220 * r + k)) (tl := tl) (W0 := ((((σ.2.1 9 r) + 2) + (σ0.2.1 11 (σ.2.1 5 (220 * r + k)))) + (σ0.2.1 12 (σ.2.1 5 (220 * r + k)))) + (σ.2.1 9 (σ.2.1 5 (220 * r + k)))) (by omega) f26 hpar2 hbl1 (fun w40 g41 f39 => ?_) _ (((((σ.2.1 9 r) + 2) + (σ0.2.1 11 (σ.2.1 5 (220 * r + k)))) + (σ0.2.1 12 (σ.2.1 5 (220 * r + k)))) + (σ.2.1 9 (σ.2.1 5 (220 * r + k)))) (0) (by omega) (by rw [show (0 : Int).toNat = 0 from rfl, hz1]; omega) rfl)
              show Tm _ _ 163 b σ23 [(6, .int (iI w40)), (5, .int (iI (σ.2.1 5 (220 * r + k)))), (4, .int (iI (220 * r + k))), (3, .int (iI k)), (2, .int (iI tl)), (0, .ref b), (1, .int (iI r))] [] _
              have hw2 := f39
              refine tm_iconst dX12_melt_163 ?_
              refine tm_istore (L' := [(7, .int (iI 0)), (6, .int (iI w40)), (5, .int (iI (σ.2.1 5 (220 * r + k)))), (4, .int (iI (220 * r + k))), (3, .int (iI k)), (2, .int (iI tl)), (0, .ref b), (1, .int (iI r))]) dX12_melt_164 (by decide) rfl ?_
              refine tm_sub [0, 1, 2, 3, 4, 5, 6, 7] rfl (l_me3 (d + 5) (σ := σ23) (r := r) (k := k) (q := σ.2.1 5 (220 * r + k)) (tl := tl) (W0 := w40) (by omega) f26 (by omega) (fun w47 i48 f46 => ?_) _ (w40) (0) (by omega) (by rw [show (0 : Int).toNat = 0 from rfl, hz2]; omega) rfl)
              show Tm _ _ 212 b σ23 [(6, .int (iI w47)), (5, .int (iI (σ.2.1 5 (220 * r + k)))), (4, .int (iI (220 * r + k))), (3, .int (iI k)), (2, .int (iI tl)), (0, .ref b), (1, .int (iI r))] [] _
              have hw3 := f46
              refine tm_iload dX12_melt_212 0 rfl ?_
              refine tm_sipush dX12_melt_214 (by decide) ?_
              refine tm_icmp_gt (tgt := 256) dX12_melt_217 (by decide) ⟨by omega, by omega⟩ ⟨by decide, by decide⟩ (fun h49 => ?_) (fun h49 => ?_)
              · refine tm_iinc (q0 := 3) (L' := [(3, .int (iI (k + 1))), (6, .int (iI w47)), (5, .int (iI (σ.2.1 5 (220 * r + k)))), (4, .int (iI (220 * r + k))), (2, .int (iI tl)), (0, .ref b), (1, .int (iI r))]) dX12_melt_256 rfl (by decide) rfl ?_
                refine tm_goto (tgt := 4) dX12_melt_259 (by decide) ?_
                exact tm_sub [0, 4, 5, 6] rfl (ih _ (by first | omega | (rw [e9]; omega)) (tl) (k + 1) σ23 ((Fr.rfl.trans (Fr.sub hF (by decide) (by decide) (by decide))).trans (Fr.sub f25 (by decide) (by decide) (by decide))) f26 (by rw [e9]; omega) hgd1 hl1 hbl1 (fun j hj => by rw [e9]; exact hx9 j hj) (hxr.trans (XO.xr (XO.fr f1 (by decide)))) rfl)
              · refine tm_aload_n dX12_melt_220 rfl 5 rfl ?_
                refine tm_iload_n dX12_melt_221 rfl 6 rfl ?_
                refine tm_callV (M := m_X12_melt) (pc := 222) (ix := 410) (M' := m_X12_registers) (As := [.int (iI r)]) (rest := []) dX12_melt_222 ok_X12_registers im_X12_registers se_X12_registers ml12_410 np_X12_registers rfl rfl (Nat.le_of_ble_eq_true rfl) (Nat.le_of_ble_eq_true rfl) rfl (c_X12_registers (d + 2) (σ := σ23) (r := r) (by omega) f26 gr1.2.1 hnam2 hit2 hpar2 gr1.2.2.1) (fun r50 σ51 hp => ?_)
                obtain ⟨v52, rfl, rfl, f53, f54, f55⟩ := hp
                show Tm _ _ 225 b σ23 [(6, .int (iI w47)), (5, .int (iI (σ.2.1 5 (220 * r + k)))), (4, .int (iI (220 * r + k))), (3, .int (iI k)), (2, .int (iI tl)), (0, .ref b), (1, .int (iI r))] [.int (iI v52)] _
                have hRN1 := f54
                have hRI1 := f55
                refine tm_aload_n dX12_melt_225 rfl 5 rfl ?_
                refine tm_iload dX12_melt_226 1 rfl ?_
                refine tm_callV (M := m_X12_melt) (pc := 228) (ix := 410) (M' := m_X12_registers) (As := [.int (iI (σ.2.1 5 (220 * r + k)))]) (rest := [.int (iI v52)]) dX12_melt_228 ok_X12_registers im_X12_registers se_X12_registers ml12_410 np_X12_registers rfl rfl (Nat.le_of_ble_eq_true rfl) (Nat.le_of_ble_eq_true rfl) rfl (c_X12_registers (d + 2) (σ := σ23) (r := σ.2.1 5 (220 * r + k)) (by omega) f26 gq1.2.1 hnam2 hit2 hpar2 gq1.2.2.1) (fun r56 σ57 hp => ?_)
                obtain ⟨v58, rfl, rfl, f59, f60, f61⟩ := hp
                show Tm _ _ 231 b σ23 [(6, .int (iI w47)), (5, .int (iI (σ.2.1 5 (220 * r + k)))), (4, .int (iI (220 * r + k))), (3, .int (iI k)), (2, .int (iI tl)), (0, .ref b), (1, .int (iI r))] [.int (iI v58), .int (iI v52)] _
                have hrn1 := f60
                have hri1 := f61
                have hri0 : RGI σ (σ.2.1 5 (220 * r + k)) v58 (σ.2.1 9 (σ.2.1 5 (220 * r + k))) := by have h := RGI_fr f1 f61; rw [e9] at h; exact h
                have hnc1 := hnc (by omega)
                rw [← f1.2.1 3 (by decide), ← f1.2.1 9 (by decide)] at hnc1
                refine tm_iadd dX12_melt_231 ?_
                refine tm_bipush dX12_melt_232 (by decide) ?_
                refine tm_icmp_gt (tgt := 256) dX12_melt_234 (by decide) ⟨by omega, by omega⟩ ⟨by decide, by decide⟩ (fun h62 => ?_) (fun h62 => ?_)
                · refine tm_iinc (q0 := 3) (L' := [(3, .int (iI (k + 1))), (6, .int (iI w47)), (5, .int (iI (σ.2.1 5 (220 * r + k)))), (4, .int (iI (220 * r + k))), (2, .int (iI tl)), (0, .ref b), (1, .int (iI r))]) dX12_melt_256 rfl (by decide) rfl ?_
                  refine tm_goto (tgt := 4) dX12_melt_259 (by decide) ?_
                  exact tm_sub [0, 4, 5, 6] rfl (ih _ (by first | omega | (rw [e9]; omega)) (tl) (k + 1) σ23 ((Fr.rfl.trans (Fr.sub hF (by decide) (by decide) (by decide))).trans (Fr.sub f25 (by decide) (by decide) (by decide))) f26 (by rw [e9]; omega) hgd1 hl1 hbl1 (fun j hj => by rw [e9]; exact hx9 j hj) (hxr.trans (XO.xr (XO.fr f1 (by decide)))) rfl)
                · refine tm_aload_n dX12_melt_237 rfl 5 rfl ?_
                  refine tm_get (k := 14) (v := .ref (b + 1 + 11)) lay_12 dX12_melt_238 (by decide) fl12_44 rfl ?_
                  refine tm_iload_n dX12_melt_241 rfl 6 rfl ?_
                  refine tm_iald (z := r) (v := σ.2.1 14 r) dX12_melt_242 (show mT[11]? = some (14, 0, 6) from rfl) (by omega) (by omega) (by decide) (ra_F f25 (by decide) (rfl)) ?_
                  have g63 := RG.a hR 14 (r)
                  refine tm_aload_n dX12_melt_243 rfl 5 rfl ?_
                  refine tm_get (k := 14) (v := .ref (b + 1 + 11)) lay_12 dX12_melt_244 (by decide) fl12_44 rfl ?_
                  refine tm_iload dX12_melt_247 1 rfl ?_
                  refine tm_iald (z := σ.2.1 5 (220 * r + k)) (v := σ.2.1 14 (σ.2.1 5 (220 * r + k))) dX12_melt_249 (show mT[11]? = some (14, 0, 6) from rfl) (by omega) (by omega) (by decide) (ra_F f25 (by decide) (rfl)) ?_
                  have g64 := RG.a hR 14 (σ.2.1 5 (220 * r + k))
                  refine tm_iadd dX12_melt_250 ?_
                  refine tm_bipush dX12_melt_251 (by decide) ?_
                  refine tm_icmp_le (tgt := 262) dX12_melt_253 (by decide) ⟨by omega, by omega⟩ ⟨by decide, by decide⟩ (fun h65 => ?_) (fun h65 => ?_)
                  · refine tm_aload_n dX12_melt_262 rfl 5 rfl ?_
                    refine tm_iload_n dX12_melt_263 rfl 6 rfl ?_
                    refine tm_iload_n dX12_melt_264 rfl 3 rfl ?_
                    refine tm_iload dX12_melt_265 1 rfl ?_
                    refine tm_callV (M := m_X12_melt) (pc := 267) (ix := 506) (M' := m_X12_meltOne) (As := [.int (iI r), .int (iI k), .int (iI (σ.2.1 5 (220 * r + k)))]) (rest := []) dX12_melt_267 ok_X12_meltOne im_X12_meltOne se_X12_meltOne ml12_506 np_X12_meltOne rfl rfl (Nat.le_of_ble_eq_true rfl) (Nat.le_of_ble_eq_true rfl) rfl (c_X12_meltOne (d) (σ := σ23) (r := r) (k := k) (q := σ.2.1 5 (220 * r + k)) f26 (by omega) hit2 hpar2 hnam2 (by omega) gr1.2.2.1 gq1.2.2.1 gr1.2.1 gq1.2.1 gq1.2.2.2.1 gr1.2.2.2.2.2.1 gq1.2.2.2.2.2.1 gr1.2.2.2.2.1 gq1.2.2.2.2.1 gr1.2.2.2.2.2.2.2.1 gq1.2.2.2.2.2.2.2.1 gr1.2.2.2.2.2.2.1 gq1.2.2.2.2.2.2.1 hnc1 (by rw [f1.2.1 3 (by decide)]; omega) hRN1 hRI1 hrn1 hri1 (by omega) (by omega) hbl1 (fun g a c e => (hlv1 0 g (by omega) (by omega) a c (by rw [Int.mul_zero, Int.zero_add]; exact e)).lt hri0) (by omega)) (fun r66 σ67 hp => ?_)
                    obtain ⟨v68, rfl, f69, f70, f71, f72, f73, f74, f75, f76, f77, f78, f79, f80⟩ := hp
                    show Tm _ _ 270 b σ67 [(6, .int (iI w47)), (5, .int (iI (σ.2.1 5 (220 * r + k)))), (4, .int (iI (220 * r + k))), (3, .int (iI k)), (2, .int (iI tl)), (0, .ref b), (1, .int (iI r))] [.int (iI v68)] _
                    have f2 := f69
                    have xf := f78
                    have hv := f80
                    have h10 := f79
                    have e10 : σ67.1 10 = σ23.1 10 := f2.1 10 (by decide)
                    have e11 : σ67.2.1 11 = σ23.2.1 11 := f2.2.1 11 (by decide)
                    have e12 : σ67.2.1 12 = σ23.2.1 12 := f2.2.1 12 (by decide)
                    have grn : GDR σ67 r := ⟨⟨h10.1.2, h10.2⟩, f76, f74, by unfold FR0; rw [(xf.1 (12 * r + 0) (by omega)).1]; exact gr1.2.2.2.1, f72, f71, f77, f73, by rw [e11, e12]; exact gr1.2.2.2.2.2.2.2.2⟩
                    have hgd2 : GDA σ67 := GDA.of hgd1 (r := r) ⟨by omega, by rw [f1.1 10 (by decide)]; omega⟩ hnam2 f75 (fun j hj => (xf.2.2 j hj).2) (fun j hj => (xf.2.2 j hj).1) e11 e12 e10 (fun y hy => ⟨(xf.1 y (by omega)).1, (xf.1 y (by omega)).2.1⟩) (fun z hz => xf.2.1 z (by omega)) grn
                    have hl2 := hl1.fr f2 (by decide)
                    have hbl2 := hbl1.fr f2 (by decide)
                    have hxr2 := (hxr.trans (XO.xr (XO.fr f1 (by decide)))).trans f75
                    have h92 : ∀ j, j ≠ r → σ67.2.1 9 j = σ0.2.1 9 j := fun j hj => by rw [(xf.2.2 j hj).2, e9]; exact hx9 j hj
                    refine tm_istore_n (L' := [(3, .int (iI v68)), (6, .int (iI w47)), (5, .int (iI (σ.2.1 5 (220 * r + k)))), (4, .int (iI (220 * r + k))), (2, .int (iI tl)), (0, .ref b), (1, .int (iI r))]) dX12_melt_270 rfl (by decide) rfl ?_
                    refine tm_iinc (q0 := 4) (L' := [(2, .int (iI (tl + 1))), (3, .int (iI v68)), (6, .int (iI w47)), (5, .int (iI (σ.2.1 5 (220 * r + k)))), (4, .int (iI (220 * r + k))), (0, .ref b), (1, .int (iI r))]) dX12_melt_271 rfl (by decide) rfl ?_
                    refine tm_goto (tgt := 4) dX12_melt_274 (by decide) ?_
                    exact tm_sub [1, 0, 5, 6] rfl (ih _ (by first | omega | (rw [e9]; omega)) (tl + 1) (v68) σ67 (((Fr.rfl.trans (Fr.sub hF (by decide) (by decide) (by decide))).trans (Fr.sub f25 (by decide) (by decide) (by decide))).trans (Fr.sub f69 (by decide) (by decide) (by decide))) f70 (by omega) hgd2 hl2 hbl2 h92 hxr2 rfl)
                  · refine tm_iinc (q0 := 3) (L' := [(3, .int (iI (k + 1))), (6, .int (iI w47)), (5, .int (iI (σ.2.1 5 (220 * r + k)))), (4, .int (iI (220 * r + k))), (2, .int (iI tl)), (0, .ref b), (1, .int (iI r))]) dX12_melt_256 rfl (by decide) rfl ?_
                    refine tm_goto (tgt := 4) dX12_melt_259 (by decide) ?_
                    exact tm_sub [0, 4, 5, 6] rfl (ih _ (by first | omega | (rw [e9]; omega)) (tl) (k + 1) σ23 ((Fr.rfl.trans (Fr.sub hF (by decide) (by decide) (by decide))).trans (Fr.sub f25 (by decide) (by decide) (by decide))) f26 (by rw [e9]; omega) hgd1 hl1 hbl1 (fun j hj => by rw [e9]; exact hx9 j hj) (hxr.trans (XO.xr (XO.fr f1 (by decide)))) rfl)
            · refine tm_iinc (q0 := 2) (L' := [(3, .int (iI (k + 1))), (5, .int (iI (σ.2.1 5 (220 * r + k)))), (4, .int (iI (220 * r + k))), (2, .int (iI tl)), (0, .ref b), (1, .int (iI r))]) dX12_melt_69 rfl (by decide) rfl ?_
              refine tm_goto (tgt := 4) dX12_melt_72 (by decide) ?_
              exact tm_sub [0, 3, 4, 5] rfl (ih _ (by first | omega | (rw [e9]; omega)) (tl) (k + 1) σ (Fr.rfl.trans (Fr.sub hF (by decide) (by decide) (by decide))) hR (by omega) hgd hl hbl hx9 hxr rfl)
