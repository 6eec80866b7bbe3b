/-! one step of both runs: alike -/
section SIM7
variable {T : CT} {σ σ2 τ τ2 : MS} {a xa xb xc xd xe xf y : Nat} {C : Int → Nat} {t r p u v : Int}
theorem sio_ret {s : MS} (hv : v = 0) (e : s.2.1 56 a = 1 ∧ s.2.1 67 a = σ.2.1 67 a + 1) (h : (u = 2 ∧ (σ2.2.1 56 a = 2 ∧ σ2.2.1 58 a = 0 ∧ σ2.2.1 67 a = s.2.1 67 a) ∧ RPQ σ2 a xf τ2) ∨ (u = 0 ∧ (σ2.2.1 56 a = s.2.1 56 a ∧ σ2.2.1 67 a = s.2.1 67 a) ∧ RXC σ2 a xa xb xc xd xe C τ2 ∧ RPQ σ2 a xf τ2)) : SIO σ a xa xb xc xd xe xf C σ2 τ τ2 u v := by
  rcases h with ⟨h1, h2, h3⟩ | ⟨h1, h2, h3, h4⟩
  · exact Or.inr (Or.inl ⟨h1, hv, ⟨h2.1, h2.2.1, h2.2.2.trans e.2⟩, h3⟩)
  · exact Or.inr (Or.inr ⟨Or.inl h1, hv.trans h1.symm, ⟨h2.1.trans e.1, h2.2.trans e.2⟩, h3, h4⟩)
/-- OUT -/
theorem sim_out {s1 : MS} {n z : Int} (hx : RXC σ a xa xb xc xd xe C τ) (hq : RPQ σ a xf τ) (d : DX xa xb xc xd xe xf) (l : (T xf).2 = 200) (hn : n = τ.2.1 76 0) (n0 : 0 ≤ n ∧ n ≤ 1000000000) (h : JEM T σ a xf z s1) : RXC s1 a xa xb xc xd xe C (sA 76 0 (n + 1) (if n < 200 then sA 77 (200 * 0 + n) z τ else τ)) ∧ RPQ s1 a xf (sA 76 0 (n + 1) (if n < 200 then sA 77 (200 * 0 + n) z τ else τ)) ∧ (s1.2.1 56 a = σ.2.1 56 a ∧ s1.2.1 67 a = σ.2.1 67 a) ∧ (sA 76 0 (n + 1) (if n < 200 then sA 77 (200 * 0 + n) z τ else τ)).2.1 73 0 = τ.2.1 73 0 := by
  unfold DX at d
  unfold JEM at h
  have h65 := hq.1
  rw [h65, ← hn, w32_id (by omega)] at h
  have rf : ∀ f : Nat, f < 1000 → f ≠ 65 → f ≠ 66 → s1.2.1 f (a : Int) = σ.2.1 f a := fun f f0 f1 f2 => by
    rw [h, sA_k f1, sA_k f2]
    by_cases q : n < 200
    · rw [jP_in (by omega), sA_k (by omega)]
    · rw [jP_out (by omega)]
  have rr : ∀ x, x ≠ xf → s1.2.1 (1000 + x) = σ.2.1 (1000 + x) := fun x f1 => by
    rw [h, sA_k (by omega), sA_k (by omega)]
    by_cases q : n < 200
    · rw [jP_in (by omega), sA_k (by omega)]
    · rw [jP_out (by omega)]
  have tt : ∀ k : Nat, k ≠ 76 → k ≠ 77 → (sA 76 0 (n + 1) (if n < 200 then sA 77 (200 * 0 + n) z τ else τ)).2.1 k = τ.2.1 k := fun k k1 k2 => by
    rw [sA_k k1]
    by_cases q : n < 200
    · rw [if_pos q, sA_k k2]
    · rw [if_neg q]
  refine ⟨(hx.cg (σ2 := s1) ⟨rf 57 (by decide) (by decide) (by decide), rf 58 (by decide) (by decide) (by decide), rf 69 (by decide) (by decide) (by decide)⟩ ⟨rr _ (by omega), rr _ (by omega), rr _ (by omega), rr _ (by omega), rr _ (by omega)⟩).tc ⟨tt 73 (by decide) (by decide), tt 78 (by decide) (by decide), tt 79 (by decide) (by decide), tt 80 (by decide) (by decide), tt 81 (by decide) (by decide), tt 82 (by decide) (by decide), tt 16 (by decide) (by decide)⟩, ⟨?_, fun i i0 i1 i2 => ?_, ?_⟩, ⟨rf 56 (by decide) (by decide) (by decide), rf 67 (by decide) (by decide) (by decide)⟩, by rw [tt 73 (by decide) (by decide)]⟩
  · rw [h, ra_eq]; exact ra_eq.symm
  · have i2 : i < n + 1 := by
      have z : (sA 76 0 (n + 1) (if n < 200 then sA 77 (200 * 0 + n) z τ else τ)).2.1 76 0 = n + 1 := ra_eq
      omega
    rw [sA_k (show 77 ≠ 76 by decide)]
    rw [h, sA_k (by omega), sA_k (by omega)]
    by_cases q : n < 200
    · rw [jP_in (by omega), if_pos q, show 200 * 0 + n = n by omega, sA_ite, sA_ite]
      by_cases w : i = n
      · rw [if_pos w, if_pos w]
      · rw [if_neg w, if_neg w]; exact hq.2.1 i i0 i1 (by omega)
    · rw [jP_out (by omega), if_neg q]; exact hq.2.1 i i0 i1 (by omega)
  · rw [rf 68 (by decide) (by decide) (by decide), tt 75 (by decide) (by decide)]; exact hq.2.2
theorem sim (hx : RXC σ a xa xb xc xd xe C τ) (hq : RPQ σ a xf τ) (hw : RWF T σ a xa xb xc xd xe xf y C τ) (gd : GDA τ) (hp4 : PAR τ) (hr : RUN τ 0) (un : UNA τ) (e56 : σ.2.1 56 a = 1) (bg : 0 ≤ σ.2.1 67 a ∧ σ.2.1 67 a ≤ 1500000000) (bp : 0 ≤ τ.2.1 76 0 ∧ τ.2.1 76 0 ≤ 1000000000) (hj : JST T σ a xa xb xc xd xe xf y v σ2) (hs : STQ τ 0 u τ2) : SIO σ a xa xb xc xd xe xf C σ2 τ τ2 u v := by
  have h73 := hx.1.1
  have h57 := hx.1.2
  have h58 := hx.2.1
  have dd := hr.2.2.2
  have l := hw.2.1
  have d0 := hw.1
  have t6 := gd.1
  obtain ⟨k, K, ek, hK, hj⟩ := hj
  obtain ⟨t, ht⟩ : ∃ t, t = τ.2.1 73 0 - 1 := ⟨_, rfl⟩
  have rc := run_c hr (c := t) (by omega) (by omega)
  have plc := hr.2.1 t (by omega) (by omega)
  have k1 := (hx.2.2.2 t (by omega) (by omega)).1
  have ek : k = τ.2.1 79 t := by rw [ek, h57, ← ht, jA_in (by omega)]; exact k1.2.1
  obtain ⟨r, er⟩ : ∃ r, r = τ.2.1 78 t := ⟨_, rfl⟩
  rw [← er] at rc plc
  rw [← ek] at rc plc
  have hc := hw.2.2.2 r rc.1.1 rc.1.2
  have gr := gd.2 r rc.1.1 rc.1.2
  have n200 := gr.1
  have e69 := hx.2.2.1
  rw [← ht, ← er] at e69
  have hKe : K = τ.2.1 3 (220 * r + k) := by
    rcases hK with ⟨z, -⟩ | ⟨cc, x, ⟨e1, e2⟩, e3⟩
    · omega
    · have ecc : cc = C r := by omega
      subst ecc
      have ex : x = adN σ 5 (C r) := (adN_of e2).symm
      subst ex
      rw [e3]; exact hc.k rc.2.1.1 rc.2.1.2
  unfold STQ at hs
  rw [b0, show 9 * 0 + τ.2.1 73 0 - 1 = t by omega, ← er, ← ek] at hs
  rw [h57, ← ht] at hj
  rcases hj with ⟨hk, hd, ev, e⟩ | ⟨hn, hb⟩
  · have hs := hs.resolve_right (fun z => by
      rcases z with z | z | z | z | z | z | z | z | z | z
      all_goals (have z1 := z.1)
      · omega
      · omega
      · omega
      · omega
      · omega
      · omega
      · omega
      · have := z.2.2.1; omega
      · omega
      · have := z.2.2.1; omega)
    exact Or.inl ⟨hs.1, ev, hs.2.2.2, e⟩
  have hs := hs.resolve_left (fun z => hn ⟨by have := z.2.1; omega, by have := z.2.2.1; omega⟩)
  rw [w32_id (by omega)] at hb
  obtain ⟨s, es⟩ : ∃ s, s = sA 67 a (σ.2.1 67 a + 1) σ := ⟨_, rfl⟩
  rw [← es] at hb
  have hxs : RXC s a xa xb xc xd xe C τ := by rw [es]; exact hx.fld (by decide)
  have chs : CHX (RNL a) [xa, xb, xc, xd, xe, xf] [] σ s := by rw [es]; exact CHX.rfl.fld (by simp) (by decide)
  have hws := hw.chx chs
  have hcs := hws.2.2.2 r rc.1.1 rc.1.2
  have hqs : RPQ s a xf τ := hq.cg (by rw [es]; exact ⟨by rw [sA_k (by decide)], by rw [sA_k (by decide)], sA_k (by omega)⟩) ⟨rfl, rfl, rfl⟩
  have s2 : s.2.1 56 a = 1 ∧ s.2.1 67 a = σ.2.1 67 a + 1 := by
    rw [es]
    exact ⟨(congrFun (sA_k (by decide)) _).trans e56, ra_eq⟩
  have s69 : s.2.1 69 a = (C r : Int) := by rw [es, sA_k (by decide)]; exact e69
  have code : ∀ cc x : Nat, JCD s a cc x → cc = C r ∧ x = adN s 5 (C r) := fun cc x h => by
    have ecc : cc = C r := by have := h.1; omega
    subst ecc
    exact ⟨rfl, (adN_of h.2).symm⟩
  have pn : ∀ {s1 τ1 : MS}, RXC s1 a xa xb xc xd xe C τ1 → RPQ s1 a xf τ1 → τ1.2.1 73 0 = τ.2.1 73 0 → s1.2.1 56 a = s.2.1 56 a ∧ s1.2.1 67 a = s.2.1 67 a → ∀ {v : Int}, (v = 0 ∨ v = 1) → SIO σ a xa xb xc xd xe xf C (jP T xb t (w32 (k + 1)) s1) τ (sA 79 t (k + 1) τ1) v v := fun h1 h2 h3 h4 v hv => by
    rw [w32_id (by omega)]
    exact sio_n d0 l.2.1 h1 h2 (by omega) (by omega) ⟨h4.1.trans s2.1, h4.2.trans s2.2⟩ hv
  have c0 : cdW s (C r) k 0 = τ.2.1 3 (220 * r + k) := hcs.cel rc.2.1.1 rc.2.1.2 (by decide) (by decide)
  have c1 : cdW s (C r) k 1 = τ.2.1 4 (220 * r + k) := hcs.cel rc.2.1.1 rc.2.1.2 (by decide) (by decide)
  have c2 : cdW s (C r) k 2 = τ.2.1 5 (220 * r + k) := hcs.cel rc.2.1.1 rc.2.1.2 (by decide) (by decide)
  have g1 : jG T s (C r) (adN s 5 (C r)) k 1 = τ.2.1 4 (220 * r + k) := (hcs.g rc.2.1.1 rc.2.1.2 (by decide)).trans c1
  have g2 : jG T s (C r) (adN s 5 (C r)) k 2 = τ.2.1 5 (220 * r + k) := (hcs.g rc.2.1.1 rc.2.1.2 (by decide)).trans c2
  have wk := hcs.2.2.1.1 k rc.2.1.1 (by rw [hcs.n]; exact rc.2.1.2)
  have okf : ∀ f, f = τ.2.1 4 (220 * r + k) ∨ f = τ.2.1 5 (220 * r + k) → True := fun _ _ => trivial
  have oki := gr.2.2.1 k rc.2.1.1 rc.2.1.2
  rcases hs with hs | hs | hs | hs | hs | hs | hs | hs | hs | hs
  -- RETURN
  · obtain ⟨ev, z, jo, jg⟩ := hb.a4 (by omega)
    have ez := JOP.w7 (j := 0) hxs hws ht er rc.1 rc.2.1 (by decide) (by omega) jo
    rw [← ez] at hs
    exact sio_ret ev s2 (sim_ret hxs hqs hws gd hr ht jg hs.2)
  -- COPY
  · obtain ⟨ev, s1, jr, e⟩ := hb.a9 (by omega)
    obtain ⟨z, e1, d1, hz⟩ := sim_pure hxs hqs hws ht er ek rc.1 rc.2.1 (by omega) s2.1 hKe (by omega) jr
    have hz := hz.resolve_right (fun q => by have := q.1; omega)
    rw [e, ev, hs.2.1, hs.2.2, ← hz.2]
    have e5 : τ.2.1 79 t + 1 = k + 1 := by omega
    rw [e5]
    refine pn ?_ ?_ (by rw [sA_k (by decide)]) ?_ (Or.inl rfl)
    · rw [e1]; exact hxs.reg d0 d1
    · rw [e1]
      unfold DX at d0
      exact hqs.cg ⟨by rw [sA_k (by omega)], by rw [sA_k (by omega)], sA_k (fun z => d0.2.2.2.2 (Nat.add_left_cancel z.symm))⟩ ⟨sA_k (by decide), sA_k (by decide), sA_k (by decide)⟩
    · rw [e1]; exact ⟨by rw [sA_k (by omega)], by rw [sA_k (by omega)]⟩
  -- the five
  · obtain ⟨ev, s1, jr, e⟩ := hb.a9 (by omega)
    obtain ⟨z, e1, d1, hz⟩ := sim_pure hxs hqs hws ht er ek rc.1 rc.2.1 (by omega) s2.1 hKe (by omega) jr
    have hz := hz.resolve_left (fun q => by have := q.1; omega)
    have hz2 := hz.2
    rw [hKe] at hz2
    rw [e, ev, hs.2.1, hs.2.2, ← hz2]
    have e5 : τ.2.1 79 t + 1 = k + 1 := by omega
    rw [e5]
    refine pn ?_ ?_ (by rw [sA_k (by decide)]) ?_ (Or.inl rfl)
    · rw [e1]; exact hxs.reg d0 d1
    · rw [e1]
      unfold DX at d0
      exact hqs.cg ⟨by rw [sA_k (by omega)], by rw [sA_k (by omega)], sA_k (fun z => d0.2.2.2.2 (Nat.add_left_cancel z.symm))⟩ ⟨sA_k (by decide), sA_k (by decide), sA_k (by decide)⟩
    · rw [e1]; exact ⟨by rw [sA_k (by omega)], by rw [sA_k (by omega)]⟩
  -- OUT
  · obtain ⟨ev, z, s1, jo, je, e⟩ := hb.a0 (by omega)
    have ez := JOP.w7 (j := 0) hxs hws ht er rc.1 rc.2.1 (by decide) (by omega) jo
    have so := sim_out hxs hqs d0 l.2.2.2.2.2 rfl bp je
    rw [e, ev, hs.2.1, hs.2.2, ← ez]
    have e5 : τ.2.1 79 t + 1 = k + 1 := by omega
    rw [e5]
    exact pn so.1 so.2.1 so.2.2.2 so.2.2.1 (Or.inl rfl)
  -- jumps
  · obtain ⟨hk, hu, j, jt, e2⟩ := hs
    obtain ⟨j0, j13, j4⟩ := jt
    rw [b0, ← er] at j0 j13 j4
    have tg := tgt7 hcs (un r rc.1.1 rc.1.2) rc.2.1 (by omega) j0 j13 j4
    have fin : σ2 = jP T xb t j s → v = 0 → SIO σ a xa xb xc xd xe xf C σ2 τ τ2 u v := fun e ev => by
      rw [e, e2, ev, hu]
      exact sio_n d0 l.2.1 hxs hqs (by omega) (by omega) s2 (Or.inl rfl)
    rcases hk with hk | ⟨hk, ha⟩
    · obtain ⟨ev, cc, x, jd, e⟩ := hb.a1 (by omega)
      obtain ⟨q1, q2⟩ := code cc x jd
      subst q1 q2
      rw [tg] at e
      exact fin e ev
    · obtain ⟨ev, z, jo, hz⟩ := hb.a2 (by omega)
      have ez := JOP.w7 (j := 0) hxs hws ht er rc.1 rc.2.1 (by decide) (by omega) jo
      rw [ha] at ez
      have hz := hz.resolve_right (fun q => q.1 ez)
      obtain ⟨-, cc, x, jd, e⟩ := hz
      obtain ⟨q1, q2⟩ := code cc x jd
      subst q1 q2
      rw [tg] at e
      exact fin e ev
  -- what does nothing
  · have e5 : τ.2.1 79 t + 1 = k + 1 := by omega
    have fin : σ2 = jP T xb t (w32 (k + 1)) s → v = 0 → SIO σ a xa xb xc xd xe xf C σ2 τ τ2 u v := fun e ev => by
      rw [e, ev, hs.2.1, hs.2.2, e5]
      exact pn hxs hqs rfl ⟨rfl, rfl⟩ (Or.inl rfl)
    rcases hs.1 with ⟨hk, ha⟩ | hk
    · obtain ⟨ev, z, jo, hz⟩ := hb.a2 (by omega)
      have ez := JOP.w7 (j := 0) hxs hws ht er rc.1 rc.2.1 (by decide) (by omega) jo
      have hz := hz.resolve_left (fun q => ha (by rw [← ez]; exact q.1))
      exact fin hz.2 ev
    · obtain ⟨ev, s1, jr, e⟩ := hb.a9 (by omega)
      rcases jr with ⟨-, e1⟩ | ⟨n, -⟩
      · rw [e1] at e; exact fin e ev
      · omega
  -- LINE
  · obtain ⟨ev, cc, x, s1, jd, e1, e⟩ := hb.a5 (by omega)
    obtain ⟨q1, q2⟩ := code cc x jd
    subst q1 q2
    have o6 := oki.2.2.2.2.2.1 (Or.inl (by omega))
    have F12 := gr.2.1.1
    rw [g1, g2, w32_id (by omega), jP_in (by omega)] at e1
    rw [e, ev, hs.2.1, hs.2.2]
    have e5 : τ.2.1 79 t + 1 = k + 1 := by omega
    rw [e5]
    refine pn ?_ ?_ (by rw [sA_k (by decide)]) ?_ (Or.inr rfl)
    · rw [e1]; exact hxs.line d0
    · rw [e1]
      unfold DX at d0
      exact hqs.cg ⟨by rw [sA_k (by omega)], by rw [sA_k (by omega)], sA_k (fun z => d0.2.2.2.1.2 (Nat.add_left_cancel z.symm))⟩ ⟨sA_k (by decide), sA_k (by decide), sA_k (by decide)⟩
    · rw [e1]; exact ⟨by rw [sA_k (by omega)], by rw [sA_k (by omega)]⟩
  -- ENTER
  · obtain ⟨ev, cc, x, s0, s1, s3, jd, e0, e1, e3, e⟩ := hb.a6 (by omega)
    obtain ⟨q1, q2⟩ := code cc x jd
    subst q1 q2
    have kd : kdm τ 0 r k = 14 := by unfold kdm; rw [b0]; exact hs.1
    have en := plc.enter kd
    have ds : dsm τ 0 r k = τ.2.1 4 (220 * r + k) := by unfold dsm; rw [b0]
    rw [ds] at en
    have er2 := en.1.rng
    have e14 : fm τ 0 r = τ.2.1 14 r := if_neg (by decide)
    rw [e14] at er2
    have F12 := gr.2.1.1
    have s58 : s.2.1 58 a = dpt τ 0 := hxs.2.1
    have ch0 : CHX (RNL a) [xa, xb, xc, xd, xe, xf] [] s s0 := by rw [e0]; exact CHX.rfl.fld (by simp) (by decide)
    have hc0 := (hws.chx ch0).2.2.2 r rc.1.1 rc.1.2
    have a0 : adN s0 5 (C r) = adN s 5 (C r) := by unfold adN; rw [e0, sA_k (by decide)]
    have g10 : jG T s0 (C r) (adN s 5 (C r)) k 1 = τ.2.1 4 (220 * r + k) := by
      rw [← a0]
      exact (hc0.g rc.2.1.1 rc.2.1.2 (by decide)).trans (hc0.cel rc.2.1.1 rc.2.1.2 (by decide) (by decide))
    rw [g10, jP_in (by omega)] at e1
    have ch1 : CHX (RNL a) [xa, xb, xc, xd, xe, xf] [] s s1 := by rw [e1]; exact ch0.arr (by simp)
    have hc1 := (hws.chx ch1).2.2.2 r rc.1.1 rc.1.2
    have a1 : adN s1 5 (C r) = adN s 5 (C r) := by unfold adN; rw [e1, sA_k (by omega), e0, sA_k (by decide)]
    have g11 : jG T s1 (C r) (adN s 5 (C r)) k 1 = τ.2.1 4 (220 * r + k) := by
      rw [← a1]
      exact (hc1.g rc.2.1.1 rc.2.1.2 (by decide)).trans (hc1.cel rc.2.1.1 rc.2.1.2 (by decide) (by decide))
    rw [g11, w32_id (by omega), jP_in (by omega)] at e3
    have dd9 := hr.2.2.2
    have dg9 := hr.ge
    have h58s := hxs.2.1
    rw [w32_id (by omega)] at e0
    have dps := dp_s ((gd.bka (by decide)).2 r rc.1.1 rc.1.2) en.1.rng
    rw [en.2.1] at dps
    have top := dpt_top (t := t) (τ2 := sA 81 (12 * t + τ.2.1 4 (220 * r + k)) 0 (sA 80 t (τ.2.1 4 (220 * r + k)) τ)) ((Fr.rfl.A (k := 80) (ks := [80, 81]) (by decide)).A (by decide)) (by decide) (by omega) ht rfl (fun _ _ _ => rfl) (fun c x0 x1 => by rw [sA_k (by decide)]; exact ra_ne (by omega) rfl)
    rw [← er, show (sA 81 (12 * t + τ.2.1 4 (220 * r + k)) 0 (sA 80 t (τ.2.1 4 (220 * r + k)) τ)).2.1 80 t = τ.2.1 4 (220 * r + k) by rw [sA_k (by decide)]; exact ra_eq] at top
    have px := hxs.ent (xf := xf) (t := t) (g := τ.2.1 4 (220 * r + k)) d0 ht er2.1 (by rw [← er]; exact en.2.1) (by omega)
    rw [e, ev, hs.2.1, hs.2.2.2]
    have e5 : τ.2.1 79 t + 1 = k + 1 := by omega
    rw [e5]
    have e33 : s3 = sA (1000 + xd) (t * 12 + τ.2.1 4 (220 * r + k)) 0 (sA (1000 + xc) t (τ.2.1 4 (220 * r + k)) (sA 58 a (s.2.1 58 a + 1) s)) := by rw [e3, e1, e0]
    refine pn (by rw [e33]; exact px) ?_ (by rw [sA_k (by decide), sA_k (by decide)]) ?_ (Or.inl rfl)
    · rw [e33]
      unfold DX at d0
      exact hqs.cg ⟨by rw [sA_k (by omega), sA_k (by omega), sA_k (by decide)], by rw [sA_k (by omega), sA_k (by omega), sA_k (by decide)], by rw [sA_k (by omega), sA_k (by omega), sA_k (by omega)]⟩ ⟨by rw [sA_k (by decide), sA_k (by decide)], by rw [sA_k (by decide), sA_k (by decide)], by rw [sA_k (by decide), sA_k (by decide)]⟩
    · rw [e33]; exact ⟨by rw [sA_k (by omega), sA_k (by omega), sA_k (by decide)], by rw [sA_k (by omega), sA_k (by omega), sA_k (by decide)]⟩
  -- LEAVE
  · obtain ⟨ev, cc, x, xp, s0, s1, jd, ep, e0, e1, e⟩ := hb.a7 (by omega)
    obtain ⟨q1, q2⟩ := code cc x jd
    subst q1 q2
    have kd : kdm τ 0 r k = 15 := by unfold kdm; rw [b0]; exact hs.1
    have le := plc.leave kd
    have ds : dsm τ 0 r k = τ.2.1 4 (220 * r + k) := by unfold dsm; rw [b0]
    rw [ds] at le
    have lr := plc.rng
    have e14 : fm τ 0 r = τ.2.1 14 r := if_neg (by decide)
    rw [e14] at lr
    have F12 := gr.2.1.1
    have s58 : s.2.1 58 a = dpt τ 0 := hxs.2.1
    have dg := hr.ge
    have ch0 : CHX (RNL a) [xa, xb, xc, xd, xe, xf] [] s s0 := by rw [e0]; exact CHX.rfl.fld (by simp) (by decide)
    have hc0 := (hws.chx ch0).2.2.2 r rc.1.1 rc.1.2
    have a0 : adN s0 5 (C r) = adN s 5 (C r) := by unfold adN; rw [e0, sA_k (by decide)]
    have g10 : jG T s0 (C r) (adN s 5 (C r)) k 1 = τ.2.1 4 (220 * r + k) := by
      rw [← a0]
      exact (hc0.g rc.2.1.1 rc.2.1.2 (by decide)).trans (hc0.cel rc.2.1.1 rc.2.1.2 (by decide) (by decide))
    have a12 : xp = adN s0 12 (C r) := by
      have z : adN s0 12 (C r) = adN s 12 (C r) := by unfold adN; rw [e0, sA_k (by decide)]
      rw [z, adN_of ep]
    have l12 := hc0.2.2.2.2.1.2.1
    have pr7 := par7 hc0 (f := τ.2.1 4 (220 * r + k)) (by omega) (by omega)
    have pr8 : s0.2.1 (1000 + xp) (τ.2.1 4 (220 * r + k)) = τ.2.1 16 (12 * r + τ.2.1 4 (220 * r + k)) := by rw [a12]; exact pr7
    rw [g10, jA_in (by rw [a12]; omega), pr8, jP_in (by omega)] at e1
    rw [w32_id (by omega)] at e0
    have pm : prm τ 0 r (τ.2.1 80 t) = τ.2.1 16 (12 * r + τ.2.1 4 (220 * r + k)) := by
      rw [← le.2.1]; exact if_neg (by decide)
    have dps := dp_s ((gd.bka (by decide)).2 r rc.1.1 rc.1.2) plc.rng
    rw [pm] at dps
    have top := dpt_top (t := t) (τ2 := sA 80 t (τ.2.1 16 (12 * r + τ.2.1 4 (220 * r + k))) τ) (Fr.rfl.A (k := 80) (ks := [80]) (by decide)) (by decide) (by omega) ht rfl (fun _ _ _ => rfl) (fun c x0 x1 => ra_ne (by omega) rfl)
    rw [← er, show (sA 80 t (τ.2.1 16 (12 * r + τ.2.1 4 (220 * r + k))) τ).2.1 80 t = τ.2.1 16 (12 * r + τ.2.1 4 (220 * r + k)) from ra_eq] at top
    have px := hxs.lea (xf := xf) (t := t) (g := τ.2.1 16 (12 * r + τ.2.1 4 (220 * r + k))) d0 ht lr.1 (by rw [← er]; exact pm) (by omega)
    rw [e, ev, hs.2.1, hs.2.2, ← er]
    have e5 : τ.2.1 79 t + 1 = k + 1 := by omega
    rw [e5]
    have e33 : s1 = sA (1000 + xc) t (τ.2.1 16 (12 * r + τ.2.1 4 (220 * r + k))) (sA 58 a (s.2.1 58 a - 1) s) := by rw [e1, e0]
    refine pn (by rw [e33]; exact px) ?_ (by rw [sA_k (by decide)]) ?_ (Or.inl rfl)
    · rw [e33]
      unfold DX at d0
      exact hqs.cg ⟨by rw [sA_k (by omega), sA_k (by decide)], by rw [sA_k (by omega), sA_k (by decide)], by rw [sA_k (by omega), sA_k (by omega)]⟩ ⟨sA_k (by decide), sA_k (by decide), sA_k (by decide)⟩
    · rw [e33]; exact ⟨by rw [sA_k (by omega), sA_k (by decide)], by rw [sA_k (by omega), sA_k (by decide)]⟩
  -- CALL
  · obtain ⟨ev, jc⟩ := hb.a3 (by omega)
    have kd : kdm τ 0 r k = 10 := by unfold kdm; rw [b0]; exact hs.1
    have cq := plc.call ((gd.bka (by decide)).2 r rc.1.1 rc.1.2) kd
    rw [b0] at cq
    have sc := sim_call hxs hws gd hp4 hr ht er rc.1 rc.2.1 rfl cq hs.1 (by have := hs.2.2.1; omega) jc hs.2.2.2
    have fl : ∀ f : Nat, f < 1000 → f ≠ 57 → f ≠ 58 → f ≠ 69 → σ2.2.1 f (a : Int) = s.2.1 f a := fun f f0 f1 f2 f3 => sc.2.1.1 f a f0 (fun z hz e => by
      simp only [List.mem_cons, List.not_mem_nil, or_false] at hz
      rcases hz with z | z | z <;> rw [z] at e <;> omega)
    unfold DX at d0
    refine Or.inr (Or.inr ⟨Or.inl hs.2.1, ev.trans hs.2.1.symm, ⟨(fl 56 (by decide) (by decide) (by decide) (by decide)).trans s2.1, (fl 67 (by decide) (by decide) (by decide) (by decide)).trans s2.2⟩, sc.1, hqs.cg ⟨fl 65 (by decide) (by decide) (by decide) (by decide), fl 68 (by decide) (by decide) (by decide) (by decide), sc.2.1.r (by simp only [List.mem_cons, List.not_mem_nil, or_false, not_or]; exact ⟨Ne.symm d0.1.2.2.2.2, Ne.symm d0.2.1.2.2.2, Ne.symm d0.2.2.1.2.2, Ne.symm d0.2.2.2.1.2, Ne.symm d0.2.2.2.2⟩)⟩ ⟨sc.2.2.2.2, ?_, sc.2.2.2.1⟩⟩)
    exact sc.2.2.1.2.1 77 (by decide)
end SIM7

