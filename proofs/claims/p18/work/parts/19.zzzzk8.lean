section
section RTC9S
variable {σ0 τ τ2 τ3 τ0 : MS} {k n m j : Nat} {L l v al al2 : Int}
def RSP9 (τ : MS) (al : Int) (τ2 : MS) (al2 : Int) : Prop := (RST9 τ 0 τ2 ∧ al2 = al) ∨ ∃ τa τb, RST9 τ 1 τa ∧ RLN9 τa 1 τb ∧ AAQ τb 1 ∧ Fr [83, 84] FOK [] τb τ2 ∧ al2 = al + 1
def RTC9 (τ0 : MS) : Nat → Int → MS → Prop
  | 0, al, τ => al = 0 ∧ τ = τ0
  | n + 1, al, τ => ∃ (al1 : Int) (τ1 : MS), RTC9 τ0 n al1 τ1 ∧ RSP9 τ1 al1 τ al
theorem rtc_sl (h : RTC9 τ0 n al τ) (s : SLN9 1 m τ τ2) : RTC9 τ0 (n + m) al τ2 := by
  induction m generalizing τ2 with
  | zero =>
    have e : τ2 = τ := s
    rw [e]; exact h
  | succ m ih =>
    obtain ⟨τ1, s1, w, st⟩ := s
    exact ⟨al, τ1, ih s1, Or.inl ⟨⟨w.1, w.2.2.2, st⟩, rfl⟩⟩
theorem rtc_br (h : BRN9 k τ0 L τ l) : ∃ n : Nat, RTC9 τ0 n k τ ∧ (n : Int) + l = L := by
  induction k generalizing τ l with
  | zero => exact ⟨0, ⟨rfl, h.1⟩, by have := h.2; omega⟩
  | succ k ih =>
    obtain ⟨τ1, l1, h1, -, n, n2, τ2, τ3, ⟨τn, s, w, st, -⟩, nl, nx, rn, aq, fo, el⟩ := h
    obtain ⟨n0, r0, e0⟩ := ih h1
    exact ⟨n0 + n + 1, ⟨(k : Int), τn, rtc_sl r0 s, Or.inr ⟨τ2, τ3, ⟨w.1, w.2.2.2, st⟩, ⟨n2, nx, rn⟩, aq, fo, by omega⟩⟩, by omega⟩
theorem rtc_ex (h : BEX9 τ0 L v) : ∃ (n : Nat) (k : Int) (τ1 : MS), RTC9 τ0 n k τ1 ∧ (((n : Int) = L ∧ v = k) ∨ ((n : Int) < L ∧ ∃ (iz pv : Int) (τ2 τ3 : MS), iz ≠ 0 ∧ RST9 τ1 iz τ2 ∧ RLN9 τ2 pv τ3 ∧ BEN9 τ3 iz pv k v)) := by
  obtain ⟨k, τ1, l1, br, -, ⟨n, τ2, s, e1, e2⟩ | ⟨n, n2, iz, pv, τ2, τ3, ⟨τn, s, w, st, nz⟩, nl, nx, rn, be⟩⟩ := h
  · obtain ⟨n0, r0, e0⟩ := rtc_br br
    exact ⟨n0 + n, k, τ2, rtc_sl r0 s, Or.inl ⟨by omega, e2⟩⟩
  · obtain ⟨n0, r0, e0⟩ := rtc_br br
    exact ⟨n0 + n, k, τn, rtc_sl r0 s, Or.inr ⟨by omega, iz, pv, τ2, τ3, nz, ⟨w.1, w.2.2.2, st⟩, ⟨n2, nx, rn⟩, be⟩⟩
theorem rtc_pre (h : RTC9 τ0 n al τ) (hj : j < n) : ∃ (al1 : Int) (τ1 : MS) (al2 : Int) (τ2 : MS), RTC9 τ0 j al1 τ1 ∧ RSP9 τ1 al1 τ2 al2 := by
  induction n generalizing al τ with
  | zero => omega
  | succ n ih =>
    obtain ⟨al1, τ1, h1, h2⟩ := h
    by_cases z : j = n
    · subst z
      exact ⟨al1, τ1, al, τ, h1, h2⟩
    · exact ih h1 (by omega)
end RTC9S
section TOG9S
variable {T : CT} {σ σ0 σ1 σ2 σ3 σ4 τ τ0 τ2 τ3 τ4 : MS} {to pl yy txa txb txc txd txe txf pxa pxb pxc pxd pxe pxf y a : Nat} {C M : Int → Nat} {n j i : Nat} {m u v w e g b x pv iz k al bl al2 bl2 N v2 : Int} {W : Int → Int} {L L1 L2 : List E8}
def CSP9 (T : CT) (σ1 : MS) (a to pl txa txb txc txd txe txf y pxa pxb pxc pxd pxe pxf yy : Nat) (al1 : Int) (σ : MS) (al : Int) : Prop := σ1.2.1 56 to = 1 ∧ ∃ σ2 : MS, CHX (RNL to) [txa, txb, txc, txd, txe, txf] [] σ1 σ2 ∧ ((JST T σ1 to txa txb txc txd txe txf y 0 σ2 ∧ al = al1 ∧ σ = σ2) ∨ (JST T σ1 to txa txb txc txd txe txf y 1 σ2 ∧ al = al1 + 1 ∧ TLN9 T σ2 a to pl txa txb txc txd txe txf y pxa pxb pxc pxd pxe pxf yy 1 σ))
theorem tgc_pre (h : TGC9 T σ0 a to pl txa txb txc txd txe txf y pxa pxb pxc pxd pxe pxf yy n al σ) (hj : j < n) : ∃ (al1 : Int) (σ1 : MS) (al2 : Int) (σ3 : MS), TGC9 T σ0 a to pl txa txb txc txd txe txf y pxa pxb pxc pxd pxe pxf yy j al1 σ1 ∧ CSP9 T σ1 a to pl txa txb txc txd txe txf y pxa pxb pxc pxd pxe pxf yy al1 σ3 al2 ∧ (j + 1 = n → al2 = al ∧ σ3 = σ) ∧ (j + 1 < n → σ3.2.1 56 to = 1) := by
  induction n generalizing al σ with
  | zero => omega
  | succ n ih =>
    obtain ⟨al1, σ1, σ2, h1, -, h56, c, -, io⟩ := h
    by_cases z : j = n
    · subst z
      exact ⟨al1, σ1, al, σ, h1, ⟨h56, σ2, c, io⟩, fun _ => ⟨rfl, rfl⟩, fun z => by omega⟩
    · obtain ⟨a1, s1, a2, s3, i1, i2, i3, i4⟩ := ih h1 (by omega)
      refine ⟨a1, s1, a2, s3, i1, i2, fun z => by omega, fun _ => ?_⟩
      by_cases q : j + 1 = n
      · rw [(i3 q).2]; exact h56
      · exact i4 (by omega)
theorem LK9.mono {b2 : Int} (h : LK9 T σ to txa txb txc txd txe txf y pl pxa pxb pxc pxd pxe pxf yy C M τ x W L1 L2 b) (hb : b ≤ b2) : LK9 T σ to txa txb txc txd txe txf y pl pxa pxb pxc pxd pxe pxf yy C M τ x W L1 L2 b2 := ⟨h.1, h.2.1, h.2.2.1, ⟨h.2.2.2.1.1, by have := h.2.2.2.1.2; omega⟩, ⟨h.2.2.2.2.1, by have := h.2.2.2.2.2; omega⟩⟩
theorem lk_step (K : LK9 T σ to txa txb txc txd txe txf y pl pxa pxb pxc pxd pxe pxf yy C M τ x W L1 L2 b) (hb : b ≤ 1300000000) (n1 : (nl8 L1 : Int) = al) (n2 : (nl8 L2 : Int) = al) (hc : CSP9 T σ a to pl txa txb txc txd txe txf y pxa pxb pxc pxd pxe pxf yy al σ3 al2) (hr : RSP9 τ al τ3 bl2) : bl2 = al2 ∧ ∃ L3 L4, LK9 T σ3 to txa txb txc txd txe txf y pl pxa pxb pxc pxd pxe pxf yy C M τ3 x W L3 L4 (b + 8005) ∧ (nl8 L3 : Int) = al2 ∧ (nl8 L4 : Int) = al2 := by
  obtain ⟨-, σ2, c, ⟨jt, ea, es⟩ | ⟨jt, ea, tl⟩⟩ := hc
  · rcases hr with ⟨r, er⟩ | ⟨τa, τb, r, -⟩
    · obtain ⟨L3, n3, -, -, -, ⟨-, -, K2⟩ | ⟨z, -⟩⟩ := K.torn (by omega) c jt r
      · rw [es]
        have := n3.2 (by decide)
        exact ⟨by omega, L3, L2, K2.mono (by omega), by omega, by omega⟩
      · omega
    · obtain ⟨L3, n3, -, -, -, ⟨-, z, -⟩ | ⟨z, -⟩⟩ := K.torn (by omega) c jt r
      · omega
      · omega
  · rcases hr with ⟨r, er⟩ | ⟨τa, τb, r, rl, aq, fo, er⟩
    · obtain ⟨L3, n3, -, -, -, ⟨-, z, -⟩ | ⟨z, -⟩⟩ := K.torn (by omega) c jt r
      · omega
      · omega
    · obtain ⟨L3, n3, -, -, -, ⟨-, -, K2⟩ | ⟨z, -⟩⟩ := K.torn (by omega) c jt r
      · obtain ⟨m3, A0, e3⟩ := n3.1 rfl
        rcases K2.line (by omega) (run_line r.1 r.2.2) e3 (by omega) tl rl with ⟨-, -, L4, n4, key⟩ | ⟨z, -⟩
        · exact ⟨by omega, L3, L4, (key τ3 fo).mono (by omega), by omega, by omega⟩
        · omega
      · omega
theorem lk_all (K : LK9 T σ0 to txa txb txc txd txe txf y pl pxa pxb pxc pxd pxe pxf yy C M τ0 x W [] [] 0) : ∀ (j : Nat), (j : Int) ≤ 20000 → ∀ (al : Int) (σ : MS) (bl : Int) (τ : MS), TGC9 T σ0 a to pl txa txb txc txd txe txf y pxa pxb pxc pxd pxe pxf yy j al σ → RTC9 τ0 j bl τ → bl = al ∧ ∃ L1 L2, LK9 T σ to txa txb txc txd txe txf y pl pxa pxb pxc pxd pxe pxf yy C M τ x W L1 L2 (8005 * j) ∧ (nl8 L1 : Int) = al ∧ (nl8 L2 : Int) = al := by
  intro j
  induction j with
  | zero =>
    intro _ al σ bl τ h1 h2
    obtain ⟨a1, a2⟩ := h1
    obtain ⟨b1, b2⟩ := h2
    subst a2 b2
    exact ⟨by omega, [], [], K, by rw [a1]; rfl, by rw [a1]; rfl⟩
  | succ j ih =>
    intro hj al σ bl τ h1 h2
    obtain ⟨al1, σ1, σ2, c1, -, h56, c, -, io⟩ := h1
    obtain ⟨bl1, τ1, r1, rs⟩ := h2
    obtain ⟨e, L1, L2, K1, n1, n2⟩ := ih (by omega) al1 σ1 bl1 τ1 c1 r1
    subst e
    obtain ⟨e2, L3, L4, K2, m1, m2⟩ := lk_step K1 (by omega) n1 n2 ⟨h56, σ2, c, io⟩ rs
    exact ⟨e2, L3, L4, K2.mono (by omega), m1, m2⟩
theorem om_x {n i : Nat} {N : Int} (q : n < i) (hi : (i : Int) ≤ N ∨ i = 0) (z : (n : Int) = N) : False := by omega
theorem tog9 (K : LK9 T σ0 to txa txb txc txd txe txf y pl pxa pxb pxc pxd pxe pxf yy C M τ0 x W [] [] 0) (hN : 1 ≤ N ∧ N ≤ 20000) (h : TG9 T σ0 a to pl txa txb txc txd txe txf y pxa pxb pxc pxd pxe pxf yy N v) (r : BEX9 τ0 N v2) : v = v2 := by
  obtain ⟨i, al, σ, tc, -, -, hi, io⟩ := h
  obtain ⟨n, k, τ, rc, ro⟩ := rtc_ex r
  have hn : (n : Int) ≤ N := by omega
  rcases Nat.lt_trichotomy i n with q | q | q
  · exfalso
    obtain ⟨bl, τ1, bl2, τ2, rj, rs⟩ := rtc_pre rc q
    obtain ⟨e, L1, L2, K1, n1, n2⟩ := lk_all K i (by omega) al σ bl τ1 tc rj
    rcases io with ⟨hin, -, -, σ1, σ2, c, -, jt, tl⟩ | ⟨z, -⟩ | ⟨z, -⟩
    · rcases rs with ⟨r0, -⟩ | ⟨τa, τb, r1, rl, aq, -⟩
      · obtain ⟨L3, n3, -, -, -, ⟨-, z, -⟩ | ⟨z, -⟩⟩ := K1.torn (by omega) c jt r0 <;> omega
      · obtain ⟨L3, n3, -, -, -, ⟨-, -, K2⟩ | ⟨z, -⟩⟩ := K1.torn (by omega) c jt r1
        · obtain ⟨m3, A0, e3⟩ := n3.1 rfl
          rcases K2.line (by omega) (run_line r1.1 r1.2.2) e3 (by omega) tl rl with ⟨-, ak, -⟩ | ⟨z, -⟩
          · have := (ak 1 aq).2 rfl
            omega
          · omega
        · omega
    · omega
    · exact z K1.1.1.1
  · subst q
    obtain ⟨e, L1, L2, K1, n1, n2⟩ := lk_all K i (by omega) al σ k τ tc rc
    rcases io with ⟨hin, -, hv, σ1, σ2, c, -, jt, tl⟩ | ⟨z, -, hv⟩ | ⟨z, -⟩
    · rcases ro with ⟨z, -⟩ | ⟨-, iz, pv, τ2, τ3, nz, rs, rl, be⟩
      · omega
      · obtain ⟨L3, n3, -, -, -, ⟨-, z, K2⟩ | ⟨-, z, -⟩⟩ := K1.torn (by omega) c jt rs
        · subst z
          obtain ⟨m3, A0, e3⟩ := n3.1 rfl
          have l := K2.line (by omega) (run_line rs.1 rs.2.2) e3 (by omega) tl rl
          rcases be with ⟨-, z⟩ | ⟨-, z, -⟩ | ⟨-, -, -, z⟩
          · omega
          · exact absurd rfl z
          · omega
        · omega
    · rcases ro with ⟨-, z⟩ | ⟨z, -⟩
      · omega
      · omega
    · exact absurd K1.1.1.1 z
  · obtain ⟨al1, σ1, al2, σ3, tj, ⟨-, σ2, c, cs⟩, lst, mid⟩ := tgc_pre tc q
    obtain ⟨e, L1, L2, K1, n1, n2⟩ := lk_all K n (by omega) al1 σ1 k τ tj rc
    rcases ro with ⟨z, -⟩ | ⟨-, iz, pv, τ2, τ3, nz, rs, rl, be⟩
    · exact (om_x q hi z).elim
    · rcases cs with ⟨jt, ea, es⟩ | ⟨jt, ea, tl⟩
      · obtain ⟨L3, n3, B2, S2, e67, ⟨z, z2, -⟩ | ⟨hz, -, D⟩⟩ := K1.torn (by omega) c jt rs
        · omega
        · have d56 : σ2.2.1 56 to ≠ 1 := by
            obtain ⟨-, -, -, L0, ⟨-, z, -⟩ | ⟨-, z, -⟩⟩ := D <;> omega
          rw [es] at mid lst
          by_cases z : n + 1 = i
          · obtain ⟨l1, l2⟩ := lst z
            rw [← l2] at io
            rcases io with ⟨-, z, -⟩ | ⟨-, z, -⟩ | ⟨-, e9, te, ev⟩
            · exact absurd z d56
            · exact absurd z d56
            · have b67 := K1.2.2.2.2
              have m3 := n3.2 (by omega)
              rcases end10 D hz B2 S2 (b := 8005 * n) (by rw [e67]; exact b67) (by omega) (by omega) te rl be with ⟨w1, w2⟩ | ⟨w1, w2⟩ <;> rcases ev with ⟨w3, w4⟩ | ⟨w3, w4⟩ <;> omega
          · exact absurd (mid (by omega)) d56
      · exfalso
        obtain ⟨L3, n3, -, -, -, ⟨-, z, K2⟩ | ⟨-, z, -⟩⟩ := K1.torn (by omega) c jt rs
        · subst z
          obtain ⟨m3, A0, e3⟩ := n3.1 rfl
          rcases K2.line (by omega) (run_line rs.1 rs.2.2) e3 (by omega) tl rl with ⟨hp, ak, -⟩ | ⟨-, z⟩
          · rcases be with ⟨z, -⟩ | ⟨-, z, -⟩ | ⟨-, -, z, -⟩
            · exact z hp.symm
            · exact z rfl
            · have := (ak 0 z).1 rfl
              omega
          · omega
        · omega
end TOG9S
end
