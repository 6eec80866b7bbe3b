/-- nothing of the items of routines has changed but of those of routine r -/
def XR (r : Int) (σ τ : MS) : Prop := (∀ y, (y < 220 * r ∨ 220 * r + 220 ≤ y) → y < 2640 → τ.2.1 3 y = σ.2.1 3 y ∧ τ.2.1 4 y = σ.2.1 4 y ∧ τ.2.1 5 y = σ.2.1 5 y ∧ τ.2.1 6 y = σ.2.1 6 y) ∧ (∀ z, (z < 880 * r ∨ 880 * r + 880 ≤ z) → z < 10560 → τ.2.1 7 z = σ.2.1 7 z ∧ τ.2.1 8 z = σ.2.1 8 z)
theorem XR.rfl {r : Int} {σ : MS} : XR r σ σ := ⟨fun _ _ _ => ⟨Eq.refl _, Eq.refl _, Eq.refl _, Eq.refl _⟩, fun _ _ _ => ⟨Eq.refl _, Eq.refl _⟩⟩
theorem XR.trans {r : Int} {σ τ υ : MS} (h : XR r σ τ) (g : XR r τ υ) : XR r σ υ := ⟨fun y hy hz => ⟨((g.1 y hy hz).1).trans (h.1 y hy hz).1, ((g.1 y hy hz).2.1).trans (h.1 y hy hz).2.1, ((g.1 y hy hz).2.2.1).trans (h.1 y hy hz).2.2.1, ((g.1 y hy hz).2.2.2).trans (h.1 y hy hz).2.2.2⟩, fun z hz hw => ⟨((g.2 z hz hw).1).trans (h.2 z hz hw).1, ((g.2 z hz hw).2).trans (h.2 z hz hw).2⟩⟩
theorem XO.xr {r : Int} {σ τ : MS} (h : XO r σ τ) : XR r σ τ := ⟨fun y hy _ => h.1 y hy, fun z hz _ => h.2 z hz⟩
theorem OFF.xr {r k : Int} {σ τ : MS} (h : OFF k σ τ) (h0 : 2640 ≤ k) : XR r σ τ := ⟨fun y _ hz => h.1 y (by omega), fun z _ hw => h.2.1 z (by omega)⟩
theorem XR.ieq {r k : Int} {σ τ : MS} (h : XR r σ τ) (hk : k < 220 * r ∨ 220 * r + 220 ≤ k) (h2 : k < 2640) : IEQ σ k τ k := ⟨(h.1 k hk h2).1, (h.1 k hk h2).2.1, (h.1 k hk h2).2.2.1, (h.1 k hk h2).2.2.2, fun i a b => h.2 (4 * k + i) (by omega) (by omega)⟩
/-- items move up by one, from p on up to k; i: how far -/
def SHF (σ0 σ : MS) (r k i : Int) : Prop := (∀ j, 0 ≤ j → j ≤ i → IEQ σ0 (220 * r + j) σ (220 * r + j)) ∧ (∀ j, i < j → j ≤ k → IEQ σ0 (220 * r + (j - 1)) σ (220 * r + j)) ∧ (∀ j, k < j → j < 220 → IEQ σ0 (220 * r + j) σ (220 * r + j)) ∧ IEQ σ0 2640 σ 2640 ∧ XO r σ0 σ
theorem SHF.start {σ : MS} {r k : Int} : SHF σ σ r k k := ⟨fun _ _ _ => IEQ.rfl, fun j a b => by omega, fun _ _ _ => IEQ.rfl, IEQ.rfl, XO.rfl⟩
theorem SHF.go {σ0 σ : MS} {r k i : Int} (h : SHF σ0 σ r k i) (hr : 0 ≤ r ∧ r < 6) (hi : 1 ≤ i ∧ i ≤ k ∧ k < 220) : SHF σ0 (fCopy (220 * r + (i - 1)) (220 * r + i) σ) r k (i - 1) := by
  obtain ⟨h1, h2, h3, h4, h5⟩ := h
  have o := fCopy_off (f := 220 * r + (i - 1)) (t := 220 * r + i) (σ := σ)
  refine ⟨fun j a b => (h1 j a (by omega)).trans (o.ieq (by omega)), fun j a b => ?_, fun j a b => (h3 j a b).trans (o.ieq (by omega)), h4.trans (o.ieq (by omega)), h5.trans (o.xo (by omega) (by omega))⟩
  by_cases z : j = i
  · subst z; exact (h1 (j - 1) (by omega) (by omega)).trans fCopy_ieq
  · exact (h2 j (by omega) b).trans (o.ieq (by omega))
theorem SHF.fin {ρ σ : MS} {r F k p : Int} (h : SHF (fCopy (220 * r + k) 2640 ρ) σ r k p) (hr : 0 ≤ r ∧ r < 6) (hp : 0 ≤ p ∧ p < k ∧ k < ρ.2.1 9 r ∧ ρ.2.1 9 r ≤ 220) (h13 : ρ.2.1 3 (220 * r + p) = 13) (h5 : ρ.2.1 3 (220 * r + k) ≤ 5) (ho : OKS ρ F r) (hc : CODE ρ r) (hl : LEX ρ r) (hb : LBM ρ r) (f : Fr [] [3, 4, 5, 6, 7, 8] [] ρ σ) :
    CODE (fCopy 2640 (220 * r + p) σ) r ∧ LEX (fCopy 2640 (220 * r + p) σ) r ∧ LBM (fCopy 2640 (220 * r + p) σ) r ∧ OKS (fCopy 2640 (220 * r + p) σ) F r ∧ XR r ρ (fCopy 2640 (220 * r + p) σ) ∧ (fCopy 2640 (220 * r + p) σ).2.1 3 (220 * r + (p + 1)) = 13 := by
  obtain ⟨h1, h2, h3, h4, h6⟩ := h
  have o0 := fCopy_off (f := 220 * r + k) (t := 2640) (σ := ρ)
  have i0 := fCopy_ieq (f := 220 * r + k) (t := 2640) (σ := ρ)
  have o := fCopy_off (f := 2640) (t := 220 * r + p) (σ := σ)
  have i1 := fCopy_ieq (f := 2640) (t := 220 * r + p) (σ := σ)
  have h2' : ∀ j, p < j → j ≤ k → IEQ ρ (220 * r + (j - 1)) (fCopy 2640 (220 * r + p) σ) (220 * r + j) := fun j a b => ((o0.ieq (by omega)).trans (h2 j a b)).trans (o.ieq (by omega))
  have R := rot_fin (τ := fCopy 2640 (220 * r + p) σ) (F := F) ⟨hp.1, hp.2.1, hp.2.2.1⟩ h13 h5 ho hc hl hb (f.trans (fCopy_fr.sub (by decide) (by decide) (by decide)))
    (fun j a b => ((o0.ieq (by omega)).trans (h1 j a (by omega))).trans (o.ieq (by omega))) ((i0.trans h4).trans i1) h2' (fun j a b => ((o0.ieq (by omega)).trans (h3 j a (by omega))).trans (o.ieq (by omega)))
  refine ⟨R.1, R.2.1, R.2.2.1, R.2.2.2, ((o0.xr (by omega)).trans h6.xr).trans (o.xo hp.1 (by omega)).xr, ?_⟩
  have := (h2' (p + 1) (by omega) (by omega)).1
  rw [this, show p + 1 - 1 = p by omega]; exact h13

theorem dX12_moveAll_160 : decode cX12_moveAll 160 = .ok (.iload 7, 2) := by decide +kernel
theorem dX12_moveAll_162 : decode cX12_moveAll 162 = .ok (.iload 4, 2) := by decide +kernel
theorem dX12_moveAll_164 : decode cX12_moveAll 164 = .ok (.if_icmp .le 29, 3) := by decide +kernel
theorem dX12_moveAll_167 : decode cX12_moveAll 167 = .ok (.aload_n 0, 1) := by decide +kernel
theorem dX12_moveAll_168 : decode cX12_moveAll 168 = .ok (.aload_n 0, 1) := by decide +kernel
theorem dX12_moveAll_169 : decode cX12_moveAll 169 = .ok (.iload_n 1, 1) := by decide +kernel
theorem dX12_moveAll_170 : decode cX12_moveAll 170 = .ok (.iload 7, 2) := by decide +kernel
theorem dX12_moveAll_172 : decode cX12_moveAll 172 = .ok (.iconst 1, 1) := by decide +kernel
theorem dX12_moveAll_173 : decode cX12_moveAll 173 = .ok (.isub, 1) := by decide +kernel
theorem dX12_moveAll_174 : decode cX12_moveAll 174 = .ok (.invokevirtual 203, 3) := by decide +kernel
theorem dX12_moveAll_177 : decode cX12_moveAll 177 = .ok (.aload_n 0, 1) := by decide +kernel
theorem dX12_moveAll_178 : decode cX12_moveAll 178 = .ok (.iload_n 1, 1) := by decide +kernel
theorem dX12_moveAll_179 : decode cX12_moveAll 179 = .ok (.iload 7, 2) := by decide +kernel
theorem dX12_moveAll_181 : decode cX12_moveAll 181 = .ok (.invokevirtual 203, 3) := by decide +kernel
theorem dX12_moveAll_184 : decode cX12_moveAll 184 = .ok (.invokevirtual 394, 3) := by decide +kernel
theorem dX12_moveAll_187 : decode cX12_moveAll 187 = .ok (.iinc 7 (-1), 3) := by decide +kernel
theorem dX12_moveAll_190 : decode cX12_moveAll 190 = .ok (.goto (-30), 3) := by decide +kernel
set_option maxHeartbeats 1000000 in
set_option maxRecDepth 20000 in
theorem l_mv4 (d : Nat) {b : Nat} {σ0 : MS} {r : Int} {w : Int} {p0 : Int} {p : Int} {q : Int} {k : Int} {post : Option Value → MS → Prop} (hr : 0 ≤ r ∧ r < 6) (hp : 0 ≤ p ∧ p < k ∧ k < 220) (hx_193 : ∀ (i : Int) (σ : MS) , (Fr [] [3, 4, 5, 6, 7, 8] [] σ0 σ) → (RG σ) → (SHF σ0 σ r k p) → Tm (d + 2) m_X12_moveAll 193 b σ [(7, .int (iI i)), (6, .int (iI k)), (5, .int (iI q)), (4, .int (iI p)), (3, .int (iI p0)), (2, .int (iI w)), (0, .ref b), (1, .int (iI r))] [] post) : ∀ (n : Nat) (i : Int) (σ : MS) , (Fr [] [3, 4, 5, 6, 7, 8] [] σ0 σ) → (RG σ) → (p ≤ i ∧ i ≤ k) → (SHF σ0 σ r k i) → (i - p).toNat = n → Tm (d + 2) m_X12_moveAll 160 b σ [(7, .int (iI i)), (6, .int (iI k)), (5, .int (iI q)), (4, .int (iI p)), (3, .int (iI p0)), (2, .int (iI w)), (0, .ref b), (1, .int (iI r))] [] post := by
  intro n
  induction n using Nat.strongRecOn with
  | _ n ih =>
    intro i σ hF hR h0 hsh hm
    refine tm_iload dX12_moveAll_160 0 rfl ?_
    refine tm_iload dX12_moveAll_162 3 rfl ?_
    refine tm_icmp_le (tgt := 193) dX12_moveAll_164 (by decide) ⟨by omega, by omega⟩ ⟨by omega, by omega⟩ (fun h1 => ?_) (fun h1 => ?_)
    · exact tm_sub [0, 1, 2, 3, 4, 5, 6, 7] rfl (hx_193 (i) σ (Fr.rfl.trans (Fr.sub hF (by decide) (by decide) (by decide))) hR (by rw [show p = i by omega]; exact hsh))
    · refine tm_aload_n dX12_moveAll_167 rfl 6 rfl ?_
      refine tm_aload_n dX12_moveAll_168 rfl 6 rfl ?_
      refine tm_iload_n dX12_moveAll_169 rfl 7 rfl ?_
      refine tm_iload dX12_moveAll_170 0 rfl ?_
      refine tm_iconst dX12_moveAll_172 ?_
      refine tm_isub dX12_moveAll_173 ?_
      refine tm_callV (M := m_X12_moveAll) (pc := 174) (ix := 203) (M' := m_X12_at) (As := [.int (iI r), .int (iI (i - 1))]) (rest := [.ref b]) dX12_moveAll_174 ok_X12_at im_X12_at se_X12_at ml12_203 np_X12_at rfl rfl (Nat.le_of_ble_eq_true rfl) (Nat.le_of_ble_eq_true rfl) rfl (c_X12_at (d) (σ := σ) (x := r) (k := i - 1) ) (fun r2 σ3 hp => ?_)
      obtain ⟨v4, rfl, rfl, f5⟩ := hp
      subst f5
      show Tm _ _ 177 b σ [(7, .int (iI i)), (6, .int (iI k)), (5, .int (iI q)), (4, .int (iI p)), (3, .int (iI p0)), (2, .int (iI w)), (0, .ref b), (1, .int (iI r))] [.int (iI (220 * r + (i - 1))), .ref b] _
      refine tm_aload_n dX12_moveAll_177 rfl 6 rfl ?_
      refine tm_iload_n dX12_moveAll_178 rfl 7 rfl ?_
      refine tm_iload dX12_moveAll_179 0 rfl ?_
      refine tm_callV (M := m_X12_moveAll) (pc := 181) (ix := 203) (M' := m_X12_at) (As := [.int (iI r), .int (iI i)]) (rest := [.int (iI (220 * r + (i - 1))), .ref b]) dX12_moveAll_181 ok_X12_at im_X12_at se_X12_at ml12_203 np_X12_at rfl rfl (Nat.le_of_ble_eq_true rfl) (Nat.le_of_ble_eq_true rfl) rfl (c_X12_at (d) (σ := σ) (x := r) (k := i) ) (fun r6 σ7 hp => ?_)
      obtain ⟨v8, rfl, rfl, f9⟩ := hp
      subst f9
      show Tm _ _ 184 b σ [(7, .int (iI i)), (6, .int (iI k)), (5, .int (iI q)), (4, .int (iI p)), (3, .int (iI p0)), (2, .int (iI w)), (0, .ref b), (1, .int (iI r))] [.int (iI (220 * r + i)), .int (iI (220 * r + (i - 1))), .ref b] _
      refine tm_callV (M := m_X12_moveAll) (pc := 184) (ix := 394) (M' := m_X12_copyItem) (As := [.int (iI (220 * r + (i - 1))), .int (iI (220 * r + i))]) (rest := []) dX12_moveAll_184 ok_X12_copyItem im_X12_copyItem se_X12_copyItem ml12_394 np_X12_copyItem rfl rfl (Nat.le_of_ble_eq_true rfl) (Nat.le_of_ble_eq_true rfl) rfl (c_X12_copyItem (d) (σ := σ) (f := 220 * r + (i - 1)) (t := 220 * r + i) (by omega) (by omega)) (fun r10 σ11 hp => ?_)
      obtain ⟨rfl, f13⟩ := hp
      subst f13
      show Tm _ _ 187 b (fCopy (220 * r + (i - 1)) (220 * r + i) σ) [(7, .int (iI i)), (6, .int (iI k)), (5, .int (iI q)), (4, .int (iI p)), (3, .int (iI p0)), (2, .int (iI w)), (0, .ref b), (1, .int (iI r))] [] _
      refine tm_iinc (q0 := 0) (L' := [(7, .int (iI (i + (-1)))), (6, .int (iI k)), (5, .int (iI q)), (4, .int (iI p)), (3, .int (iI p0)), (2, .int (iI w)), (0, .ref b), (1, .int (iI r))]) dX12_moveAll_187 rfl (by decide) rfl ?_
      refine tm_goto (tgt := 160) dX12_moveAll_190 (by decide) ?_
      exact tm_sub [0, 1, 2, 3, 4, 5, 6, 7] rfl (ih _ (by omega) (i + (-1)) (fCopy (220 * r + (i - 1)) (220 * r + i) σ) ((Fr.rfl.trans (Fr.sub hF (by decide) (by decide) (by decide))).trans (Fr.sub fCopy_fr (by decide) (by decide) (by decide))) (hR.copy) (by omega) (hsh.go hr (by omega)) rfl)
theorem ml12_490 : Cond.methodLink RX12 490 yX12_mayMove ∈ pWW := pw9 (List.mem_of_getElem? (i := 157) rfl) rfl
theorem dX12_moveAll_108 : decode cX12_moveAll 108 = .ok (.iload 6, 2) := by decide +kernel
theorem dX12_moveAll_110 : decode cX12_moveAll 110 = .ok (.iload 5, 2) := by decide +kernel
theorem dX12_moveAll_112 : decode cX12_moveAll 112 = .ok (.if_icmp .gt 108, 3) := by decide +kernel
theorem dX12_moveAll_115 : decode cX12_moveAll 115 = .ok (.iload 5, 2) := by decide +kernel
theorem dX12_moveAll_117 : decode cX12_moveAll 117 = .ok (.iload 4, 2) := by decide +kernel
theorem dX12_moveAll_119 : decode cX12_moveAll 119 = .ok (.if_icmp .le 101, 3) := by decide +kernel
theorem dX12_moveAll_122 : decode cX12_moveAll 122 = .ok (.aload_n 0, 1) := by decide +kernel
theorem dX12_moveAll_123 : decode cX12_moveAll 123 = .ok (.iload_n 1, 1) := by decide +kernel
theorem dX12_moveAll_124 : decode cX12_moveAll 124 = .ok (.iload 6, 2) := by decide +kernel
theorem dX12_moveAll_126 : decode cX12_moveAll 126 = .ok (.iload 4, 2) := by decide +kernel
theorem dX12_moveAll_128 : decode cX12_moveAll 128 = .ok (.iload 5, 2) := by decide +kernel
theorem dX12_moveAll_130 : decode cX12_moveAll 130 = .ok (.invokevirtual 490, 3) := by decide +kernel
theorem dX12_moveAll_133 : decode cX12_moveAll 133 = .ok (.ifCond .ne 9, 3) := by decide +kernel
theorem dX12_moveAll_142 : decode cX12_moveAll 142 = .ok (.aload_n 0, 1) := by decide +kernel
theorem dX12_moveAll_143 : decode cX12_moveAll 143 = .ok (.aload_n 0, 1) := by decide +kernel
theorem dX12_moveAll_144 : decode cX12_moveAll 144 = .ok (.iload_n 1, 1) := by decide +kernel
theorem dX12_moveAll_145 : decode cX12_moveAll 145 = .ok (.iload 6, 2) := by decide +kernel
theorem dX12_moveAll_147 : decode cX12_moveAll 147 = .ok (.invokevirtual 203, 3) := by decide +kernel
theorem dX12_moveAll_150 : decode cX12_moveAll 150 = .ok (.sipush 2640, 3) := by decide +kernel
theorem dX12_moveAll_153 : decode cX12_moveAll 153 = .ok (.invokevirtual 394, 3) := by decide +kernel
theorem dX12_moveAll_156 : decode cX12_moveAll 156 = .ok (.iload 6, 2) := by decide +kernel
theorem dX12_moveAll_158 : decode cX12_moveAll 158 = .ok (.istore 7, 2) := by decide +kernel
theorem dX12_moveAll_193 : decode cX12_moveAll 193 = .ok (.aload_n 0, 1) := by decide +kernel
theorem dX12_moveAll_194 : decode cX12_moveAll 194 = .ok (.sipush 2640, 3) := by decide +kernel
theorem dX12_moveAll_197 : decode cX12_moveAll 197 = .ok (.aload_n 0, 1) := by decide +kernel
theorem dX12_moveAll_198 : decode cX12_moveAll 198 = .ok (.iload_n 1, 1) := by decide +kernel
theorem dX12_moveAll_199 : decode cX12_moveAll 199 = .ok (.iload 4, 2) := by decide +kernel
theorem dX12_moveAll_201 : decode cX12_moveAll 201 = .ok (.invokevirtual 203, 3) := by decide +kernel
theorem dX12_moveAll_204 : decode cX12_moveAll 204 = .ok (.invokevirtual 394, 3) := by decide +kernel
theorem dX12_moveAll_207 : decode cX12_moveAll 207 = .ok (.iinc 2 1, 3) := by decide +kernel
theorem dX12_moveAll_210 : decode cX12_moveAll 210 = .ok (.iinc 4 1, 3) := by decide +kernel
theorem dX12_moveAll_213 : decode cX12_moveAll 213 = .ok (.iload 4, 2) := by decide +kernel
theorem dX12_moveAll_215 : decode cX12_moveAll 215 = .ok (.istore 6, 2) := by decide +kernel
theorem dX12_moveAll_217 : decode cX12_moveAll 217 = .ok (.goto (-109), 3) := by decide +kernel
theorem dX12_moveAll_136 : decode cX12_moveAll 136 = .ok (.iinc 6 1, 3) := by decide +kernel
theorem dX12_moveAll_139 : decode cX12_moveAll 139 = .ok (.goto (-31), 3) := by decide +kernel
set_option maxHeartbeats 1000000 in
set_option maxRecDepth 20000 in
theorem l_mv3 (d : Nat) {b : Nat} {σ0 : MS} {r : Int} {F : Int} {q : Int} {p0 : Int} {post : Option Value → MS → Prop} (hr : 0 ≤ r ∧ r < 6) (hR0 : RG σ0) (hit : ITM σ0) (hpar : PAR σ0) (hnam : NAM σ0) (hof : OKF σ0 r) (hq : q < σ0.2.1 9 r) (hx_220 : ∀ (w : Int) (p : Int) (k : Int) (σ : MS) , (Fr [] [3, 4, 5, 6, 7, 8] [] σ0 σ) → (RG σ) → (OKS σ F r) → (CODE σ r) → (LEX σ r) → (LBM σ r) → (XR r σ0 σ) → Tm (d + 6) m_X12_moveAll 220 b σ [(3, .int (iI p0)), (2, .int (iI w)), (0, .ref b), (1, .int (iI r))] [] post) : ∀ (n : Nat) (w : Int) (p : Int) (k : Int) (σ : MS) , (Fr [] [3, 4, 5, 6, 7, 8] [] σ0 σ) → (RG σ) → (0 ≤ p ∧ p ≤ k ∧ k ≤ q + 1 ∧ p ≤ q) → (σ.2.1 3 (220 * r + p) = 13) → (OKS σ F r) → (CODE σ r) → (LEX σ r) → (LBM σ r) → (XR r σ0 σ) → ((220 - p) * 221 + (221 - k)).toNat = n → Tm (d + 6) m_X12_moveAll 108 b σ [(6, .int (iI k)), (5, .int (iI q)), (4, .int (iI p)), (3, .int (iI p0)), (2, .int (iI w)), (0, .ref b), (1, .int (iI r))] [] post := by
  intro n
  induction n using Nat.strongRecOn with
  | _ n ih =>
    intro w p k σ hF hR h0 h13 hok hcd hlex hlm hxr hm
    have hit1 := hit.fr hF (by decide)
    have hpar1 := hpar.fr hF (by decide)
    have hnam1 := hnam.fr hF (by decide)
    have hof1 := hof.fr hF (by decide)
    have q1 := hit r (by omega) (by omega)
    have q9 : σ.2.1 9 r = σ0.2.1 9 r := by rw [hF.2.1 9 (by decide)]
    refine tm_iload dX12_moveAll_108 0 rfl ?_
    refine tm_iload dX12_moveAll_110 1 rfl ?_
    refine tm_icmp_gt (tgt := 220) dX12_moveAll_112 (by decide) ⟨by omega, by omega⟩ ⟨by omega, by omega⟩ (fun h1 => ?_) (fun h1 => ?_)
    · exact tm_sub [3, 4, 5, 6] rfl (hx_220 (w) (0) (0) σ (Fr.rfl.trans (Fr.sub hF (by decide) (by decide) (by decide))) hR hok hcd hlex hlm hxr)
    · refine tm_iload dX12_moveAll_115 1 rfl ?_
      refine tm_iload dX12_moveAll_117 2 rfl ?_
      refine tm_icmp_le (tgt := 220) dX12_moveAll_119 (by decide) ⟨by omega, by omega⟩ ⟨by omega, by omega⟩ (fun h2 => ?_) (fun h2 => ?_)
      · exact tm_sub [3, 4, 5, 6] rfl (hx_220 (w) (0) (0) σ (Fr.rfl.trans (Fr.sub hF (by decide) (by decide) (by decide))) hR hok hcd hlex hlm hxr)
      · refine tm_aload_n dX12_moveAll_122 rfl 5 rfl ?_
        refine tm_iload_n dX12_moveAll_123 rfl 6 rfl ?_
        refine tm_iload dX12_moveAll_124 0 rfl ?_
        refine tm_iload dX12_moveAll_126 2 rfl ?_
        refine tm_iload dX12_moveAll_128 1 rfl ?_
        refine tm_callV (M := m_X12_moveAll) (pc := 130) (ix := 490) (M' := m_X12_mayMove) (As := [.int (iI r), .int (iI k), .int (iI p), .int (iI q)]) (rest := []) dX12_moveAll_130 ok_X12_mayMove im_X12_mayMove se_X12_mayMove ml12_490 np_X12_mayMove rfl rfl (Nat.le_of_ble_eq_true rfl) (Nat.le_of_ble_eq_true rfl) rfl (c_X12_mayMove (d) (σ := σ) (r := r) (k := k) (fr := p) (to := q) (F := F) (by omega) hR hit1 hpar1 hok hof1 hnam1 (by omega) (by omega)) (fun r3 σ4 hp => ?_)
        obtain ⟨v5, rfl, rfl, f6, f7⟩ := hp
        show Tm _ _ 133 b σ [(6, .int (iI k)), (5, .int (iI q)), (4, .int (iI p)), (3, .int (iI p0)), (2, .int (iI w)), (0, .ref b), (1, .int (iI r))] [.int (iI v5)] _
        refine tm_if_ne (tgt := 142) dX12_moveAll_133 (by decide) ⟨by omega, by omega⟩ (fun h8 => ?_) (fun h8 => ?_)
        · have hv5 := f7 (by omega)
          have hk5 : σ.2.1 3 (220 * r + k) ≤ 5 := hv5
          have hpk : p ≠ k := fun e => by subst e; omega
          refine tm_aload_n dX12_moveAll_142 rfl 5 rfl ?_
          refine tm_aload_n dX12_moveAll_143 rfl 5 rfl ?_
          refine tm_iload_n dX12_moveAll_144 rfl 6 rfl ?_
          refine tm_iload dX12_moveAll_145 0 rfl ?_
          refine tm_callV (M := m_X12_moveAll) (pc := 147) (ix := 203) (M' := m_X12_at) (As := [.int (iI r), .int (iI k)]) (rest := [.ref b]) dX12_moveAll_147 ok_X12_at im_X12_at se_X12_at ml12_203 np_X12_at rfl rfl (Nat.le_of_ble_eq_true rfl) (Nat.le_of_ble_eq_true rfl) rfl (c_X12_at (d + 4) (σ := σ) (x := r) (k := k) ) (fun r9 σ10 hp => ?_)
          obtain ⟨v11, rfl, rfl, f12⟩ := hp
          subst f12
          show Tm _ _ 150 b σ [(6, .int (iI k)), (5, .int (iI q)), (4, .int (iI p)), (3, .int (iI p0)), (2, .int (iI w)), (0, .ref b), (1, .int (iI r))] [.int (iI (220 * r + k)), .ref b] _
          refine tm_sipush dX12_moveAll_150 (by decide) ?_
          refine tm_callV (M := m_X12_moveAll) (pc := 153) (ix := 394) (M' := m_X12_copyItem) (As := [.int (iI (220 * r + k)), .int (iI 2640)]) (rest := []) dX12_moveAll_153 ok_X12_copyItem im_X12_copyItem se_X12_copyItem ml12_394 np_X12_copyItem rfl rfl (Nat.le_of_ble_eq_true rfl) (Nat.le_of_ble_eq_true rfl) rfl (c_X12_copyItem (d + 4) (σ := σ) (f := 220 * r + k) (t := 2640) (by omega) (by omega)) (fun r13 σ14 hp => ?_)
          obtain ⟨rfl, f16⟩ := hp
          subst f16
          show Tm _ _ 156 b (fCopy (220 * r + k) (2640) σ) [(6, .int (iI k)), (5, .int (iI q)), (4, .int (iI p)), (3, .int (iI p0)), (2, .int (iI w)), (0, .ref b), (1, .int (iI r))] [] _
          refine tm_iload dX12_moveAll_156 0 rfl ?_
          refine tm_istore (L' := [(7, .int (iI k)), (6, .int (iI k)), (5, .int (iI q)), (4, .int (iI p)), (3, .int (iI p0)), (2, .int (iI w)), (0, .ref b), (1, .int (iI r))]) dX12_moveAll_158 (by decide) rfl ?_
          refine tm_sub [0, 1, 2, 3, 4, 5, 6, 7] rfl (l_mv4 (d + 4) (σ0 := (fCopy (220 * r + k) (2640) σ)) (r := r) (w := w) (p0 := p0) (p := p) (q := q) (k := k) hr (by omega) (fun i22 σ23 F19 R20 f21 => ?_) _ (k) (fCopy (220 * r + k) (2640) σ) Fr.rfl (hR.copy) (by omega) SHF.start rfl)
          show Tm _ _ 193 b σ23 [(7, .int (iI i22)), (6, .int (iI k)), (5, .int (iI q)), (4, .int (iI p)), (3, .int (iI p0)), (2, .int (iI w)), (0, .ref b), (1, .int (iI r))] [] _
          have hfin := SHF.fin (F := F) (p := p) f21 hr (by omega) h13 hk5 hok hcd hlex hlm (fCopy_fr.trans F19)
          refine tm_aload_n dX12_moveAll_193 rfl 6 rfl ?_
          refine tm_sipush dX12_moveAll_194 (by decide) ?_
          refine tm_aload_n dX12_moveAll_197 rfl 6 rfl ?_
          refine tm_iload_n dX12_moveAll_198 rfl 7 rfl ?_
          refine tm_iload dX12_moveAll_199 3 rfl ?_
          refine tm_callV (M := m_X12_moveAll) (pc := 201) (ix := 203) (M' := m_X12_at) (As := [.int (iI r), .int (iI p)]) (rest := [.int (iI 2640), .ref b]) dX12_moveAll_201 ok_X12_at im_X12_at se_X12_at ml12_203 np_X12_at rfl rfl (Nat.le_of_ble_eq_true rfl) (Nat.le_of_ble_eq_true rfl) rfl (c_X12_at (d + 4) (σ := σ23) (x := r) (k := p) ) (fun r24 σ25 hp => ?_)
          obtain ⟨v26, rfl, rfl, f27⟩ := hp
          subst f27
          show Tm _ _ 204 b σ23 [(7, .int (iI i22)), (6, .int (iI k)), (5, .int (iI q)), (4, .int (iI p)), (3, .int (iI p0)), (2, .int (iI w)), (0, .ref b), (1, .int (iI r))] [.int (iI (220 * r + p)), .int (iI 2640), .ref b] _
          refine tm_callV (M := m_X12_moveAll) (pc := 204) (ix := 394) (M' := m_X12_copyItem) (As := [.int (iI 2640), .int (iI (220 * r + p))]) (rest := []) dX12_moveAll_204 ok_X12_copyItem im_X12_copyItem se_X12_copyItem ml12_394 np_X12_copyItem rfl rfl (Nat.le_of_ble_eq_true rfl) (Nat.le_of_ble_eq_true rfl) rfl (c_X12_copyItem (d + 4) (σ := σ23) (f := 2640) (t := 220 * r + p) (by omega) (by omega)) (fun r28 σ29 hp => ?_)
          obtain ⟨rfl, f31⟩ := hp
          subst f31
          show Tm _ _ 207 b (fCopy (2640) (220 * r + p) σ23) [(7, .int (iI i22)), (6, .int (iI k)), (5, .int (iI q)), (4, .int (iI p)), (3, .int (iI p0)), (2, .int (iI w)), (0, .ref b), (1, .int (iI r))] [] _
          refine tm_iinc (q0 := 5) (L' := [(2, .int (iI (w + 1))), (7, .int (iI i22)), (6, .int (iI k)), (5, .int (iI q)), (4, .int (iI p)), (3, .int (iI p0)), (0, .ref b), (1, .int (iI r))]) dX12_moveAll_207 rfl (by decide) rfl ?_
          refine tm_iinc (q0 := 4) (L' := [(4, .int (iI (p + 1))), (2, .int (iI (w + 1))), (7, .int (iI i22)), (6, .int (iI k)), (5, .int (iI q)), (3, .int (iI p0)), (0, .ref b), (1, .int (iI r))]) dX12_moveAll_210 rfl (by decide) rfl ?_
          refine tm_iload dX12_moveAll_213 0 rfl ?_
          refine tm_istore (L' := [(6, .int (iI (p + 1))), (4, .int (iI (p + 1))), (2, .int (iI (w + 1))), (7, .int (iI i22)), (5, .int (iI q)), (3, .int (iI p0)), (0, .ref b), (1, .int (iI r))]) dX12_moveAll_215 (by decide) rfl ?_
          refine tm_goto (tgt := 108) dX12_moveAll_217 (by decide) ?_
          exact tm_sub [0, 4, 1, 5, 2, 6, 7] rfl (ih _ (by omega) (w + 1) (p + 1) (p + 1) (fCopy (2640) (220 * r + p) σ23) ((((Fr.rfl.trans (Fr.sub hF (by decide) (by decide) (by decide))).trans (Fr.sub fCopy_fr (by decide) (by decide) (by decide))).trans (Fr.sub F19 (by decide) (by decide) (by decide))).trans (Fr.sub fCopy_fr (by decide) (by decide) (by decide))) (R20.copy) (by omega) hfin.2.2.2.2.2 hfin.2.2.2.1 hfin.1 hfin.2.1 hfin.2.2.1 (hxr.trans hfin.2.2.2.2.1) rfl)
        · refine tm_iinc (q0 := 0) (L' := [(6, .int (iI (k + 1))), (5, .int (iI q)), (4, .int (iI p)), (3, .int (iI p0)), (2, .int (iI w)), (0, .ref b), (1, .int (iI r))]) dX12_moveAll_136 rfl (by decide) rfl ?_
          refine tm_goto (tgt := 108) dX12_moveAll_139 (by decide) ?_
          exact tm_sub [0, 1, 2, 3, 4, 5, 6] rfl (ih _ (by omega) (w) (p) (k + 1) σ (Fr.rfl.trans (Fr.sub hF (by decide) (by decide) (by decide))) hR (by omega) h13 hok hcd hlex hlm hxr rfl)
theorem dX12_moveAll_47 : decode cX12_moveAll 47 = .ok (.iload 5, 2) := by decide +kernel
theorem dX12_moveAll_49 : decode cX12_moveAll 49 = .ok (.iload 4, 2) := by decide +kernel
theorem dX12_moveAll_51 : decode cX12_moveAll 51 = .ok (.if_icmp .le 53, 3) := by decide +kernel
theorem dX12_moveAll_54 : decode cX12_moveAll 54 = .ok (.aload_n 0, 1) := by decide +kernel
theorem dX12_moveAll_55 : decode cX12_moveAll 55 = .ok (.getfield 13, 3) := by decide +kernel
theorem dX12_moveAll_58 : decode cX12_moveAll 58 = .ok (.aload_n 0, 1) := by decide +kernel
theorem dX12_moveAll_59 : decode cX12_moveAll 59 = .ok (.iload_n 1, 1) := by decide +kernel
theorem dX12_moveAll_60 : decode cX12_moveAll 60 = .ok (.iload 5, 2) := by decide +kernel
theorem dX12_moveAll_62 : decode cX12_moveAll 62 = .ok (.invokevirtual 203, 3) := by decide +kernel
theorem dX12_moveAll_65 : decode cX12_moveAll 65 = .ok (.iaload, 1) := by decide +kernel
theorem dX12_moveAll_66 : decode cX12_moveAll 66 = .ok (.bipush 8, 2) := by decide +kernel
theorem dX12_moveAll_68 : decode cX12_moveAll 68 = .ok (.if_icmp .ne 30, 3) := by decide +kernel
theorem dX12_moveAll_98 : decode cX12_moveAll 98 = .ok (.iinc 5 (-1), 3) := by decide +kernel
theorem dX12_moveAll_101 : decode cX12_moveAll 101 = .ok (.goto (-54), 3) := by decide +kernel
theorem dX12_moveAll_71 : decode cX12_moveAll 71 = .ok (.aload_n 0, 1) := by decide +kernel
theorem dX12_moveAll_72 : decode cX12_moveAll 72 = .ok (.getfield 17, 3) := by decide +kernel
theorem dX12_moveAll_75 : decode cX12_moveAll 75 = .ok (.aload_n 0, 1) := by decide +kernel
theorem dX12_moveAll_76 : decode cX12_moveAll 76 = .ok (.iload_n 1, 1) := by decide +kernel
theorem dX12_moveAll_77 : decode cX12_moveAll 77 = .ok (.iload 5, 2) := by decide +kernel
theorem dX12_moveAll_79 : decode cX12_moveAll 79 = .ok (.invokevirtual 203, 3) := by decide +kernel
theorem dX12_moveAll_82 : decode cX12_moveAll 82 = .ok (.iaload, 1) := by decide +kernel
theorem dX12_moveAll_83 : decode cX12_moveAll 83 = .ok (.aload_n 0, 1) := by decide +kernel
theorem dX12_moveAll_84 : decode cX12_moveAll 84 = .ok (.getfield 17, 3) := by decide +kernel
theorem dX12_moveAll_87 : decode cX12_moveAll 87 = .ok (.aload_n 0, 1) := by decide +kernel
theorem dX12_moveAll_88 : decode cX12_moveAll 88 = .ok (.iload_n 1, 1) := by decide +kernel
theorem dX12_moveAll_89 : decode cX12_moveAll 89 = .ok (.iload 4, 2) := by decide +kernel
theorem dX12_moveAll_91 : decode cX12_moveAll 91 = .ok (.invokevirtual 203, 3) := by decide +kernel
theorem dX12_moveAll_94 : decode cX12_moveAll 94 = .ok (.iaload, 1) := by decide +kernel
theorem dX12_moveAll_95 : decode cX12_moveAll 95 = .ok (.if_icmp .eq 9, 3) := by decide +kernel
set_option maxHeartbeats 1000000 in
set_option maxRecDepth 20000 in
theorem l_mv2 (d : Nat) {b : Nat} {σ : MS} {r : Int} {w : Int} {p0 : Int} {p : Int} {post : Option Value → MS → Prop} (hr : 0 ≤ r ∧ r < 6) (hR : RG σ) (hp : 0 ≤ p ∧ p < 220) (hx_104 : ∀ (q : Int) , (p ≤ q ∧ q < σ.2.1 9 r) → Tm (d + 2) m_X12_moveAll 104 b σ [(5, .int (iI q)), (4, .int (iI p)), (3, .int (iI p0)), (2, .int (iI w)), (0, .ref b), (1, .int (iI r))] [] post) : ∀ (n : Nat) (q : Int) , (p ≤ q ∧ q < σ.2.1 9 r ∧ σ.2.1 9 r ≤ 220) → (q - p).toNat = n → Tm (d + 2) m_X12_moveAll 47 b σ [(5, .int (iI q)), (4, .int (iI p)), (3, .int (iI p0)), (2, .int (iI w)), (0, .ref b), (1, .int (iI r))] [] post := by
  intro n
  induction n using Nat.strongRecOn with
  | _ n ih =>
    intro q h0 hm
    refine tm_iload dX12_moveAll_47 0 rfl ?_
    refine tm_iload dX12_moveAll_49 1 rfl ?_
    refine tm_icmp_le (tgt := 104) dX12_moveAll_51 (by decide) ⟨by omega, by omega⟩ ⟨by omega, by omega⟩ (fun h1 => ?_) (fun h1 => ?_)
    · exact tm_sub [0, 1, 2, 3, 4, 5] rfl (hx_104 (q) (by omega))
    · refine tm_aload_n dX12_moveAll_54 rfl 4 rfl ?_
      refine tm_get (k := 3) (v := .ref (b + 1 + 1)) lay_12 dX12_moveAll_55 (by decide) fl12_13 rfl ?_
      refine tm_aload_n dX12_moveAll_58 rfl 4 rfl ?_
      refine tm_iload_n dX12_moveAll_59 rfl 5 rfl ?_
      refine tm_iload dX12_moveAll_60 0 rfl ?_
      refine tm_callV (M := m_X12_moveAll) (pc := 62) (ix := 203) (M' := m_X12_at) (As := [.int (iI r), .int (iI q)]) (rest := [.ref (b + 1 + 1)]) dX12_moveAll_62 ok_X12_at im_X12_at se_X12_at ml12_203 np_X12_at rfl rfl (Nat.le_of_ble_eq_true rfl) (Nat.le_of_ble_eq_true rfl) rfl (c_X12_at (d) (σ := σ) (x := r) (k := q) ) (fun r2 σ3 hp => ?_)
      obtain ⟨v4, rfl, rfl, f5⟩ := hp
      subst f5
      show Tm _ _ 65 b σ [(5, .int (iI q)), (4, .int (iI p)), (3, .int (iI p0)), (2, .int (iI w)), (0, .ref b), (1, .int (iI r))] [.int (iI (220 * r + q)), .ref (b + 1 + 1)] _
      refine tm_iald (z := 220 * r + q) (v := σ.2.1 3 (220 * r + q)) dX12_moveAll_65 (show mT[1]? = some (3, 0, 2860) from rfl) (by omega) (by omega) (by decide) (rfl) ?_
      have g6 := RG.a hR 3 (220 * r + q)
      refine tm_bipush dX12_moveAll_66 (by decide) ?_
      refine tm_icmp_ne (tgt := 98) dX12_moveAll_68 (by decide) ⟨by omega, by omega⟩ ⟨by decide, by decide⟩ (fun h7 => ?_) (fun h7 => ?_)
      · refine tm_iinc (q0 := 0) (L' := [(5, .int (iI (q + (-1)))), (4, .int (iI p)), (3, .int (iI p0)), (2, .int (iI w)), (0, .ref b), (1, .int (iI r))]) dX12_moveAll_98 rfl (by decide) rfl ?_
        refine tm_goto (tgt := 47) dX12_moveAll_101 (by decide) ?_
        exact tm_sub [0, 1, 2, 3, 4, 5] rfl (ih _ (by omega) (q + (-1)) (by omega) rfl)
      · refine tm_aload_n dX12_moveAll_71 rfl 4 rfl ?_
        refine tm_get (k := 4) (v := .ref (b + 1 + 2)) lay_12 dX12_moveAll_72 (by decide) fl12_17 rfl ?_
        refine tm_aload_n dX12_moveAll_75 rfl 4 rfl ?_
        refine tm_iload_n dX12_moveAll_76 rfl 5 rfl ?_
        refine tm_iload dX12_moveAll_77 0 rfl ?_
        refine tm_callV (M := m_X12_moveAll) (pc := 79) (ix := 203) (M' := m_X12_at) (As := [.int (iI r), .int (iI q)]) (rest := [.ref (b + 1 + 2)]) dX12_moveAll_79 ok_X12_at im_X12_at se_X12_at ml12_203 np_X12_at rfl rfl (Nat.le_of_ble_eq_true rfl) (Nat.le_of_ble_eq_true rfl) rfl (c_X12_at (d) (σ := σ) (x := r) (k := q) ) (fun r8 σ9 hp => ?_)
        obtain ⟨v10, rfl, rfl, f11⟩ := hp
        subst f11
        show Tm _ _ 82 b σ [(5, .int (iI q)), (4, .int (iI p)), (3, .int (iI p0)), (2, .int (iI w)), (0, .ref b), (1, .int (iI r))] [.int (iI (220 * r + q)), .ref (b + 1 + 2)] _
        refine tm_iald (z := 220 * r + q) (v := σ.2.1 4 (220 * r + q)) dX12_moveAll_82 (show mT[2]? = some (4, 0, 2860) from rfl) (by omega) (by omega) (by decide) (rfl) ?_
        have g12 := RG.a hR 4 (220 * r + q)
        refine tm_aload_n dX12_moveAll_83 rfl 4 rfl ?_
        refine tm_get (k := 4) (v := .ref (b + 1 + 2)) lay_12 dX12_moveAll_84 (by decide) fl12_17 rfl ?_
        refine tm_aload_n dX12_moveAll_87 rfl 4 rfl ?_
        refine tm_iload_n dX12_moveAll_88 rfl 5 rfl ?_
        refine tm_iload dX12_moveAll_89 1 rfl ?_
        refine tm_callV (M := m_X12_moveAll) (pc := 91) (ix := 203) (M' := m_X12_at) (As := [.int (iI r), .int (iI p)]) (rest := [.ref (b + 1 + 2), .int (iI (σ.2.1 4 (220 * r + q)))]) dX12_moveAll_91 ok_X12_at im_X12_at se_X12_at ml12_203 np_X12_at rfl rfl (Nat.le_of_ble_eq_true rfl) (Nat.le_of_ble_eq_true rfl) rfl (c_X12_at (d) (σ := σ) (x := r) (k := p) ) (fun r13 σ14 hp => ?_)
        obtain ⟨v15, rfl, rfl, f16⟩ := hp
        subst f16
        show Tm _ _ 94 b σ [(5, .int (iI q)), (4, .int (iI p)), (3, .int (iI p0)), (2, .int (iI w)), (0, .ref b), (1, .int (iI r))] [.int (iI (220 * r + p)), .ref (b + 1 + 2), .int (iI (σ.2.1 4 (220 * r + q)))] _
        refine tm_iald (z := 220 * r + p) (v := σ.2.1 4 (220 * r + p)) dX12_moveAll_94 (show mT[2]? = some (4, 0, 2860) from rfl) (by omega) (by omega) (by decide) (rfl) ?_
        have g17 := RG.a hR 4 (220 * r + p)
        refine tm_icmp_eq (tgt := 104) dX12_moveAll_95 (by decide) ⟨by omega, by omega⟩ ⟨by omega, by omega⟩ (fun h18 => ?_) (fun h18 => ?_)
        · exact tm_sub [0, 1, 2, 3, 4, 5] rfl (hx_104 (q) (by omega))
        · refine tm_iinc (q0 := 0) (L' := [(5, .int (iI (q + (-1)))), (4, .int (iI p)), (3, .int (iI p0)), (2, .int (iI w)), (0, .ref b), (1, .int (iI r))]) dX12_moveAll_98 rfl (by decide) rfl ?_
          refine tm_goto (tgt := 47) dX12_moveAll_101 (by decide) ?_
          exact tm_sub [0, 1, 2, 3, 4, 5] rfl (ih _ (by omega) (q + (-1)) (by omega) rfl)
theorem dX12_moveAll_11 : decode cX12_moveAll 11 = .ok (.iload_n 3, 1) := by decide +kernel
theorem dX12_moveAll_12 : decode cX12_moveAll 12 = .ok (.ifCond .lt 214, 3) := by decide +kernel
theorem dX12_moveAll_15 : decode cX12_moveAll 15 = .ok (.aload_n 0, 1) := by decide +kernel
theorem dX12_moveAll_16 : decode cX12_moveAll 16 = .ok (.getfield 13, 3) := by decide +kernel
theorem dX12_moveAll_19 : decode cX12_moveAll 19 = .ok (.aload_n 0, 1) := by decide +kernel
theorem dX12_moveAll_20 : decode cX12_moveAll 20 = .ok (.iload_n 1, 1) := by decide +kernel
theorem dX12_moveAll_21 : decode cX12_moveAll 21 = .ok (.iload_n 3, 1) := by decide +kernel
theorem dX12_moveAll_22 : decode cX12_moveAll 22 = .ok (.invokevirtual 203, 3) := by decide +kernel
theorem dX12_moveAll_25 : decode cX12_moveAll 25 = .ok (.iaload, 1) := by decide +kernel
theorem dX12_moveAll_26 : decode cX12_moveAll 26 = .ok (.bipush 13, 2) := by decide +kernel
theorem dX12_moveAll_28 : decode cX12_moveAll 28 = .ok (.if_icmp .eq 6, 3) := by decide +kernel
theorem dX12_moveAll_34 : decode cX12_moveAll 34 = .ok (.iload_n 3, 1) := by decide +kernel
theorem dX12_moveAll_35 : decode cX12_moveAll 35 = .ok (.istore 4, 2) := by decide +kernel
theorem dX12_moveAll_37 : decode cX12_moveAll 37 = .ok (.aload_n 0, 1) := by decide +kernel
theorem dX12_moveAll_38 : decode cX12_moveAll 38 = .ok (.getfield 32, 3) := by decide +kernel
theorem dX12_moveAll_41 : decode cX12_moveAll 41 = .ok (.iload_n 1, 1) := by decide +kernel
theorem dX12_moveAll_42 : decode cX12_moveAll 42 = .ok (.iaload, 1) := by decide +kernel
theorem dX12_moveAll_43 : decode cX12_moveAll 43 = .ok (.iconst 1, 1) := by decide +kernel
theorem dX12_moveAll_44 : decode cX12_moveAll 44 = .ok (.isub, 1) := by decide +kernel
theorem dX12_moveAll_45 : decode cX12_moveAll 45 = .ok (.istore 5, 2) := by decide +kernel
theorem dX12_moveAll_104 : decode cX12_moveAll 104 = .ok (.iload 4, 2) := by decide +kernel
theorem dX12_moveAll_106 : decode cX12_moveAll 106 = .ok (.istore 6, 2) := by decide +kernel
theorem dX12_moveAll_220 : decode cX12_moveAll 220 = .ok (.iinc 3 (-1), 3) := by decide +kernel
theorem dX12_moveAll_223 : decode cX12_moveAll 223 = .ok (.goto (-212), 3) := by decide +kernel
theorem dX12_moveAll_31 : decode cX12_moveAll 31 = .ok (.goto 189, 3) := by decide +kernel
set_option maxHeartbeats 1000000 in
set_option maxRecDepth 20000 in
theorem l_mv1 (d : Nat) {b : Nat} {σ0 : MS} {r : Int} {F : Int} {post : Option Value → MS → Prop} (hr : 0 ≤ r ∧ r < 6) (hR0 : RG σ0) (hit : ITM σ0) (hpar : PAR σ0) (hnam : NAM σ0) (hof : OKF σ0 r) (hx_226 : ∀ (w : Int) (p0 : Int) (σ : MS) , (Fr [] [3, 4, 5, 6, 7, 8] [] σ0 σ) → (RG σ) → (OKS σ F r) → (CODE σ r) → (LEX σ r) → (LBM σ r) → (XR r σ0 σ) → Tm (d + 6) m_X12_moveAll 226 b σ [(3, .int (iI p0)), (2, .int (iI w)), (0, .ref b), (1, .int (iI r))] [] post) : ∀ (n : Nat) (w : Int) (p0 : Int) (σ : MS) , (Fr [] [3, 4, 5, 6, 7, 8] [] σ0 σ) → (RG σ) → (-1 ≤ p0 ∧ p0 < σ0.2.1 9 r) → (OKS σ F r) → (CODE σ r) → (LEX σ r) → (LBM σ r) → (XR r σ0 σ) → (p0 + 1).toNat = n → Tm (d + 6) m_X12_moveAll 11 b σ [(3, .int (iI p0)), (2, .int (iI w)), (0, .ref b), (1, .int (iI r))] [] post := by
  intro n
  induction n using Nat.strongRecOn with
  | _ n ih =>
    intro w p0 σ hF hR h0 hok hcd hlex hlm hxr hm
    have hit1 := hit.fr hF (by decide)
    have hpar1 := hpar.fr hF (by decide)
    have hnam1 := hnam.fr hF (by decide)
    have hof1 := hof.fr hF (by decide)
    have q1 := hit r (by omega) (by omega)
    have q9 : σ.2.1 9 r = σ0.2.1 9 r := by rw [hF.2.1 9 (by decide)]
    refine tm_iload_n dX12_moveAll_11 rfl 0 rfl ?_
    refine tm_if_lt (tgt := 226) dX12_moveAll_12 (by decide) ⟨by omega, by omega⟩ (fun h1 => ?_) (fun h1 => ?_)
    · exact tm_sub [0, 1, 2, 3] rfl (hx_226 (w) (p0) σ (Fr.rfl.trans (Fr.sub hF (by decide) (by decide) (by decide))) hR hok hcd hlex hlm hxr)
    · refine tm_aload_n dX12_moveAll_15 rfl 2 rfl ?_
      refine tm_get (k := 3) (v := .ref (b + 1 + 1)) lay_12 dX12_moveAll_16 (by decide) fl12_13 rfl ?_
      refine tm_aload_n dX12_moveAll_19 rfl 2 rfl ?_
      refine tm_iload_n dX12_moveAll_20 rfl 3 rfl ?_
      refine tm_iload_n dX12_moveAll_21 rfl 0 rfl ?_
      refine tm_callV (M := m_X12_moveAll) (pc := 22) (ix := 203) (M' := m_X12_at) (As := [.int (iI r), .int (iI p0)]) (rest := [.ref (b + 1 + 1)]) dX12_moveAll_22 ok_X12_at im_X12_at se_X12_at ml12_203 np_X12_at rfl rfl (Nat.le_of_ble_eq_true rfl) (Nat.le_of_ble_eq_true rfl) rfl (c_X12_at (d + 4) (σ := σ) (x := r) (k := p0) ) (fun r2 σ3 hp => ?_)
      obtain ⟨v4, rfl, rfl, f5⟩ := hp
      subst f5
      show Tm _ _ 25 b σ [(3, .int (iI p0)), (2, .int (iI w)), (0, .ref b), (1, .int (iI r))] [.int (iI (220 * r + p0)), .ref (b + 1 + 1)] _
      refine tm_iald (z := 220 * r + p0) (v := σ.2.1 3 (220 * r + p0)) dX12_moveAll_25 (show mT[1]? = some (3, 0, 2860) from rfl) (by omega) (by omega) (by decide) (rfl) ?_
      have g6 := RG.a hR 3 (220 * r + p0)
      refine tm_bipush dX12_moveAll_26 (by decide) ?_
      refine tm_icmp_eq (tgt := 34) dX12_moveAll_28 (by decide) ⟨by omega, by omega⟩ ⟨by decide, by decide⟩ (fun h7 => ?_) (fun h7 => ?_)
      · refine tm_iload_n dX12_moveAll_34 rfl 0 rfl ?_
        refine tm_istore (L' := [(4, .int (iI p0)), (3, .int (iI p0)), (2, .int (iI w)), (0, .ref b), (1, .int (iI r))]) dX12_moveAll_35 (by decide) rfl ?_
        refine tm_aload_n dX12_moveAll_37 rfl 3 rfl ?_
        refine tm_get (k := 9) (v := .ref (b + 1 + 7)) lay_12 dX12_moveAll_38 (by decide) fl12_32 rfl ?_
        refine tm_iload_n dX12_moveAll_41 rfl 4 rfl ?_
        refine tm_iald (z := r) (v := σ0.2.1 9 r) dX12_moveAll_42 (show mT[7]? = some (9, 0, 13) from rfl) (by omega) (by omega) (by decide) (ra_F hF (by decide) (rfl)) ?_
        have g8 := RG.a hR0 9 (r)
        refine tm_iconst dX12_moveAll_43 ?_
        refine tm_isub dX12_moveAll_44 ?_
        refine tm_istore (L' := [(5, .int (iI ((σ0.2.1 9 r) - 1))), (4, .int (iI p0)), (3, .int (iI p0)), (2, .int (iI w)), (0, .ref b), (1, .int (iI r))]) dX12_moveAll_45 (by decide) rfl ?_
        refine tm_sub [0, 1, 2, 3, 4, 5] rfl (l_mv2 (d + 4) (σ := σ) (r := r) (w := w) (p0 := p0) (p := p0) hr hR (by omega) (fun q13 f12 => ?_) _ ((σ0.2.1 9 r) - 1) (by omega) rfl)
        show Tm _ _ 104 b σ [(5, .int (iI q13)), (4, .int (iI p0)), (3, .int (iI p0)), (2, .int (iI w)), (0, .ref b), (1, .int (iI r))] [] _
        refine tm_iload dX12_moveAll_104 1 rfl ?_
        refine tm_istore (L' := [(6, .int (iI p0)), (5, .int (iI q13)), (4, .int (iI p0)), (3, .int (iI p0)), (2, .int (iI w)), (0, .ref b), (1, .int (iI r))]) dX12_moveAll_106 (by decide) rfl ?_
        refine tm_sub [0, 1, 2, 3, 4, 5, 6] rfl (l_mv3 (d) (σ0 := σ) (r := r) (q := q13) (p0 := p0) (F := F) hr hR hit1 hpar1 hnam1 hof1 (by omega) (fun w25 p26 k27 σ28 F18 R19 f20 f21 f22 f23 f24 => ?_) _ (w) (p0) (p0) σ Fr.rfl hR (by omega) (by omega) hok hcd hlex hlm XR.rfl rfl)
        show Tm _ _ 220 b σ28 [(3, .int (iI p0)), (2, .int (iI w25)), (0, .ref b), (1, .int (iI r))] [] _
        refine tm_iinc (q0 := 0) (L' := [(3, .int (iI (p0 + (-1)))), (2, .int (iI w25)), (0, .ref b), (1, .int (iI r))]) dX12_moveAll_220 rfl (by decide) rfl ?_
        refine tm_goto (tgt := 11) dX12_moveAll_223 (by decide) ?_
        exact tm_sub [0, 1, 2, 3] rfl (ih _ (by omega) (w25) (p0 + (-1)) σ28 ((Fr.rfl.trans (Fr.sub hF (by decide) (by decide) (by decide))).trans (Fr.sub F18 (by decide) (by decide) (by decide))) R19 (by omega) f20 f21 f22 f23 (hxr.trans f24) rfl)
      · refine tm_goto (tgt := 220) dX12_moveAll_31 (by decide) ?_
        refine tm_iinc (q0 := 0) (L' := [(3, .int (iI (p0 + (-1)))), (2, .int (iI w)), (0, .ref b), (1, .int (iI r))]) dX12_moveAll_220 rfl (by decide) rfl ?_
        refine tm_goto (tgt := 11) dX12_moveAll_223 (by decide) ?_
        exact tm_sub [0, 1, 2, 3] rfl (ih _ (by omega) (w) (p0 + (-1)) σ (Fr.rfl.trans (Fr.sub hF (by decide) (by decide) (by decide))) hR (by omega) hok hcd hlex hlm hxr rfl)
