section
section S66
variable {T : CT} {σ σ2 s s1 τ τ2 : MS} {a xa xb xc xd xe xf y x : Nat} {C : Int → Nat} {t r p q j u v n z m i w k K : Int}
theorem jP_f {f : Nat} (hf : f < 1000) : (jP T x i v s).2.1 f = s.2.1 f := by
  by_cases h : 0 ≤ i ∧ i < ((T x).2 : Int)
  · rw [jP_in h, sA_k (by omega)]
  · rw [jP_out h]
theorem joc_66 (h : JOC T σ a xa xb xc xd xe y q r σ2) : σ2.2.1 66 a = σ.2.1 66 a := by
  obtain ⟨w, s, -, e, h⟩ := h
  have es : s.2.1 66 a = σ.2.1 66 a := by
    rw [e, jP_f (by decide), jP_f (by decide), jP_f (by decide), jP_f (by decide), sA_k (by decide), sA_k (by decide), sA_k (by decide)]
  rcases h with ⟨-, e2⟩ | ⟨-, -, c⟩
  · rw [e2]; exact es
  · exact (c.1 66 a (by decide) (fun z hz => absurd hz List.not_mem_nil)).trans es
theorem jpw_66 {u0 u1 u2 u3 : Int} (h : JPW T s a xe u0 u1 u2 u3 σ2) : σ2.2.1 66 a = s.2.1 66 a := by
  obtain ⟨h0, h1, h2, h3, -, -, -, -, e⟩ := h
  rw [e, jP_f (by decide), jP_f (by decide), jP_f (by decide), jP_f (by decide)]
theorem jgb_66 (h : JGB T σ a xa xb xc xe y n σ2) : σ2.2.1 66 a = σ.2.1 66 a := by
  rcases h with ⟨-, e⟩ | ⟨-, w, s, s1, e, -, h, e2⟩
  · rw [e, sA_k (by decide), sA_k (by decide), sA_k (by decide), sA_k (by decide)]
  · have es : s.2.1 66 a = σ.2.1 66 a := by rw [e, sA_k (by decide), sA_k (by decide), sA_k (by decide)]
    rw [e2, jP_f (by decide)]
    rcases h with ⟨-, e3⟩ | ⟨c, x, -, -, e3⟩
    · rw [e3]; exact es
    · rw [e3, jP_f (by decide)]; exact es
theorem jrk_66 (h : JRK T σ a xe k K σ2) : σ2.2.1 66 a = σ.2.1 66 a := by
  rcases h with ⟨-, e⟩ | ⟨-, cc, x, p, b, -, -, -, -, e⟩
  · rw [e]
  · rw [e, jP_f (by decide)]
theorem sim66 (hx : RXC σ a xa xb xc xd xe C τ) (hw : RWF T σ a xa xb xc xd xe xf y C τ) (gd : GDA τ) (hr : RUN τ 0) (bg : 0 ≤ σ.2.1 67 a ∧ σ.2.1 67 a ≤ 1500000000) (hj : JST T σ a xa xb xc xd xe xf y v σ2) (et : t = τ.2.1 73 0 - 1) (ex : q = 220 * τ.2.1 78 t + τ.2.1 79 t) : (τ.2.1 3 q = 6 ∧ σ2.2.1 66 a = wA τ t q 0) ∨ (τ.2.1 3 q ≠ 6 ∧ σ2.2.1 66 a = σ.2.1 66 a) := by
  have h73 := hx.1.1
  have h57 := hx.1.2
  have l := hw.2.1
  have t6 := gd.1
  obtain ⟨k, K, ek, hK, hj⟩ := hj
  have rc := run_c hr (c := t) (by omega) (by omega)
  have k1 := (hx.2.2.2 t (by omega) (by omega)).1
  have ek : k = τ.2.1 79 t := by rw [ek, h57, ← et, jA_in (by omega)]; exact k1.2.1
  obtain ⟨r, er⟩ : ∃ r, r = τ.2.1 78 t := ⟨_, rfl⟩
  rw [← er] at rc ex
  rw [← ek] at rc ex
  have hc := hw.2.2.2 r rc.1.1 rc.1.2
  have e69 := hx.2.2.1
  rw [← et, ← er] at e69
  have hKe : K = τ.2.1 3 q := by
    rcases hK with ⟨z, -⟩ | ⟨cc, x, ⟨e1, e2⟩, e3⟩
    · omega
    · have ecc : cc = C r := by omega
      subst ecc
      have ex2 : x = adN σ 5 (C r) := (adN_of e2).symm
      subst ex2
      rw [e3, ex]; exact hc.k rc.2.1.1 rc.2.1.2
  rcases hj with ⟨hk, -, -, e⟩ | ⟨-, hb⟩
  · exact Or.inr ⟨by omega, by rw [e, sA_k (by decide)]⟩
  · rw [w32_id (by omega)] at hb
    obtain ⟨s, es⟩ : ∃ s, s = sA 67 a (σ.2.1 67 a + 1) σ := ⟨_, rfl⟩
    rw [← es] at hb
    have hxs : RXC s a xa xb xc xd xe C τ := by rw [es]; exact hx.fld (by decide)
    have chs : CHX (RNL a) [xa, xb, xc, xd, xe, xf] [] σ s := by rw [es]; exact CHX.rfl.fld (by simp) (by decide)
    have hws := hw.chx chs
    have s6 : s.2.1 66 a = σ.2.1 66 a := by rw [es, sA_k (by decide)]
    rcases hb with ⟨z, -, b⟩ | ⟨z, -, b⟩ | ⟨z, -, b⟩ | ⟨z, -, b⟩ | ⟨z, -, b⟩ | ⟨z, -, b⟩ | ⟨z, -, b⟩ | ⟨z, -, b⟩ | ⟨z, -, b⟩ | ⟨z, -, b⟩
    · obtain ⟨p, s1, jo, je, e⟩ := b
      have ez := JOP.w7 (j := 0) hxs hws et er rc.1 rc.2.1 (by decide) (by rw [← ex]; omega) jo
      refine Or.inl ⟨by omega, ?_⟩
      unfold JEM at je
      rw [e, jP_f (by decide), je, sA_k (by decide), ra_eq, ex]
      exact ez
    · obtain ⟨cc, x, -, e⟩ := b
      exact Or.inr ⟨by omega, by rw [e, jP_f (by decide)]; exact s6⟩
    · obtain ⟨p, -, ⟨-, cc, x, -, e⟩ | ⟨-, e⟩⟩ := b
      · exact Or.inr ⟨by omega, by rw [e, jP_f (by decide)]; exact s6⟩
      · exact Or.inr ⟨by omega, by rw [e, jP_f (by decide)]; exact s6⟩
    · obtain ⟨u0, u1, u2, u3, cc, x, s0, -, -, -, -, -, -, oc, pw⟩ := b
      exact Or.inr ⟨by omega, ((jpw_66 pw).trans (joc_66 oc)).trans s6⟩
    · obtain ⟨p, -, jg⟩ := b
      exact Or.inr ⟨by omega, (jgb_66 jg).trans s6⟩
    · obtain ⟨cc, x, s1, -, e1, e⟩ := b
      exact Or.inr ⟨by omega, by rw [e, jP_f (by decide), e1, jP_f (by decide)]; exact s6⟩
    · obtain ⟨cc, x, s0, s1, s2, -, e0, e1, e2, e⟩ := b
      exact Or.inr ⟨by omega, by rw [e, jP_f (by decide), e2, jP_f (by decide), e1, jP_f (by decide), e0, sA_k (by decide)]; exact s6⟩
    · obtain ⟨cc, x, xp, s0, s1, -, -, e0, e1, e⟩ := b
      exact Or.inr ⟨by omega, by rw [e, jP_f (by decide), e1, jP_f (by decide), e0, sA_k (by decide)]; exact s6⟩
    · exact Or.inr ⟨by omega, (jgb_66 b).trans s6⟩
    · obtain ⟨s1, jr, e⟩ := b
      exact Or.inr ⟨by omega, by rw [e, jP_f (by decide)]; exact (jrk_66 jr).trans s6⟩
theorem stq_75 (hs : STQ τ m u τ2) (hu : u ≠ 2) : τ2.2.1 75 m = τ.2.1 75 m := by
  unfold STQ STX at hs
  rcases hs with hs | hs | hs | hs | hs | hs | hs | hs | hs | hs | hs
  · rw [hs.2.2.2]
  · rcases hs.2 with ⟨e, -⟩ | ⟨-, h2, e⟩
    · exact absurd e hu
    · rw [e, sA_k (by decide), sA_k (by decide), sA_k (by decide)]
  · rw [hs.2.2, sA_k (by decide), sA_k (by decide)]
  · rw [hs.2.2, sA_k (by decide), sA_k (by decide)]
  · rw [hs.2.2, sA_k (by decide), sA_k (by decide)]
    split
    · rw [sA_k (by decide)]
    · rfl
  · obtain ⟨-, -, j, -, e⟩ := hs
    rw [e, sA_k (by decide)]
  · rw [hs.2.2, sA_k (by decide)]
  · rw [hs.2.2, sA_k (by decide), sA_k (by decide)]
  · rw [hs.2.2.2, sA_k (by decide), sA_k (by decide), sA_k (by decide)]
  · rw [hs.2.2, sA_k (by decide), sA_k (by decide)]
  · obtain ⟨-, -, -, τ1, ec, f2, pw⟩ := hs
    rw [f2.2.1 75 (by decide), ec.1.2.1 75 (by decide)]
theorem stq_out (hs : STQ τ m u τ2) (h6 : τ.2.1 3 (220 * (bkm m + τ.2.1 78 (9 * m + τ.2.1 73 m - 1)) + τ.2.1 79 (9 * m + τ.2.1 73 m - 1)) = 6) : τ2.2.1 76 m = τ.2.1 76 m + 1 := by
  unfold STQ STX at hs
  rcases hs with hs | hs | hs | hs | hs | hs | hs | hs | hs | hs | hs
  · have := hs.2.1; omega
  · have := hs.1; omega
  · have := hs.1; omega
  · have := hs.1; omega
  · rw [hs.2.2, sA_k (by decide), ra_eq]
  · have := hs.1; omega
  · have := hs.1; omega
  · have := hs.1; omega
  · have := hs.1; omega
  · have := hs.1; omega
  · have := hs.1; omega
end S66
end
