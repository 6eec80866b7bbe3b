/-! a call is opened; CALL -/
abbrev OPL (a : Nat) : List (Nat × Nat) := [(57, a), (58, a), (69, a)]
def OPN (σ s : MS) (a xa xb xc xd xe : Nat) (C : Int → Nat) (c q : Int) : Prop :=
  (s.2.1 57 a = c ∧ s.2.1 58 a = σ.2.1 58 a + 1 ∧ s.2.1 69 a = (C q : Int)) ∧ (∀ j, s.2.1 (1000 + xa) j = if j = c then q else σ.2.1 (1000 + xa) j) ∧ (∀ j, s.2.1 (1000 + xb) j = if j = c then 0 else σ.2.1 (1000 + xb) j) ∧ (∀ j, s.2.1 (1000 + xc) j = if j = c then 0 else σ.2.1 (1000 + xc) j) ∧ (∀ j, s.2.1 (1000 + xd) j = if j = c * 12 then 0 else σ.2.1 (1000 + xd) j) ∧ (∀ j, s.2.1 (1000 + xe) j = if c * 192 ≤ j ∧ j < c * 192 + 192 then 0 else σ.2.1 (1000 + xe) j) ∧ CHX (OPL a) [xa, xb, xc, xd, xe] [] σ s
theorem sA_ite {k : Nat} {i v j : Int} {σ : MS} : (sA k i v σ).2.1 k j = if j = i then v else σ.2.1 k j := by
  by_cases z : j = i
  · rw [if_pos z, z]; exact ra_eq
  · rw [if_neg z]; exact ra_ne z rfl
section OPEN7
variable {T : CT} {σ σ2 s0 τ τ2 : MS} {a xa xb xc xd xe xf y : Nat} {C : Int → Nat} {t r p q c : Int}
theorem JOC.of (hw : RWF T σ a xa xb xc xd xe xf y C τ) (q0 : 0 ≤ q ∧ q < 6) (c0 : 0 ≤ c ∧ c ≤ 8) (d0 : 0 ≤ σ.2.1 58 a ∧ σ.2.1 58 a ≤ 1000) (h : JOC T σ a xa xb xc xd xe y c q s0) : OPN σ s0 a xa xb xc xd xe C c q := by
  obtain ⟨w, s, jw, es, hf⟩ := h
  obtain ⟨d, l, ⟨hy, yn⟩, -⟩ := hw
  unfold DX at d
  have ey : jC (sA 58 a (w32 (σ.2.1 58 a + 1)) (sA 57 a c σ)) y q = (C q : Int) := by
    unfold jC
    rw [if_pos q0, sA_k (by omega), sA_k (by omega)]
    exact hy q q0.1 q0.2
  have ew : w = (C q : Int) := by
    rcases jw with e | ⟨e, -⟩
    · rw [e, ey]
    · rw [ey] at e; omega
  subst ew
  rw [w32_id (by omega), jP_in (x := xa) (by omega), jP_in (x := xb) (by omega), jP_in (x := xc) (by omega), jP_in (x := xd) (by omega)] at es
  have hf := hf.resolve_left (fun z => by have := z.1; omega)
  obtain ⟨-, fl, ch⟩ := hf
  have fld : ∀ f : Nat, f < 1000 → s0.2.1 f (a : Int) = s.2.1 f a := fun f hf => ch.1 f a hf (fun z hz => by simp at hz)
  have ra : s0.2.1 (1000 + xa) = s.2.1 (1000 + xa) := ch.r (by simp; omega)
  have rb : s0.2.1 (1000 + xb) = s.2.1 (1000 + xb) := ch.r (by simp; omega)
  have rc : s0.2.1 (1000 + xc) = s.2.1 (1000 + xc) := ch.r (by simp; omega)
  have rd : s0.2.1 (1000 + xd) = s.2.1 (1000 + xd) := ch.r (by simp; omega)
  refine ⟨⟨?_, ?_, ?_⟩, fun j => ?_, fun j => ?_, fun j => ?_, fun j => ?_, fun j => ?_, ?_⟩
  · rw [fld 57 (by decide), es, sA_k (by omega), sA_k (by omega), sA_k (by omega), sA_k (by omega), sA_k (by omega), sA_k (by omega)]
    exact ra_eq
  · rw [fld 58 (by decide), es, sA_k (by omega), sA_k (by omega), sA_k (by omega), sA_k (by omega), sA_k (by omega)]
    exact ra_eq
  · rw [fld 69 (by decide), es, sA_k (by omega), sA_k (by omega), sA_k (by omega), sA_k (by omega)]
    exact ra_eq
  · rw [ra, es, sA_k (by omega), sA_k (by omega), sA_k (by omega), sA_ite, sA_k (by omega), sA_k (by omega), sA_k (by omega)]
  · rw [rb, es, sA_k (by omega), sA_k (by omega), sA_ite, sA_k (by omega), sA_k (by omega), sA_k (by omega), sA_k (by omega)]
  · rw [rc, es, sA_k (by omega), sA_ite, sA_k (by omega), sA_k (by omega), sA_k (by omega), sA_k (by omega), sA_k (by omega)]
  · rw [rd, es, sA_ite, sA_k (by omega), sA_k (by omega), sA_k (by omega), sA_k (by omega), sA_k (by omega), sA_k (by omega)]
  · rw [fl j, es, sA_k (by omega), sA_k (by omega), sA_k (by omega), sA_k (by omega), sA_k (by omega), sA_k (by omega), sA_k (by omega)]
  · have h1 : CHX (OPL a) [xa, xb, xc, xd, xe] [] σ s := by
      rw [es]
      exact ((((((CHX.rfl.fld (by simp) (by decide)).fld (by simp) (by decide)).fld (by simp) (by decide)).arr (by simp)).arr (by simp)).arr (by simp)).arr (by simp)
    exact h1.trans (CHX.sub ch (by simp) (by simp) (by simp))
/-- a call that was opened, and its homes: alike -/
theorem JPW.of {P : Int} {u0 u1 u2 u3 : Int} (hw : RWF T s0 a xa xb xc xd xe xf y C τ) (gd : GDR τ q) (q0 : 0 ≤ q ∧ q < τ.1 10) (c0 : 0 ≤ c ∧ c ≤ 8) (e57 : s0.2.1 57 a = c) (e69 : s0.2.1 69 a = (C q : Int)) (hP : P = τ.2.1 11 q) (P0 : 0 ≤ P ∧ P ≤ 4) (h : JPW T s0 a xe u0 u1 u2 u3 σ2) : PWC xe (fun n => τ.2.1 18 (144 * q + n)) (prW u0 u1 u2 u3) (c * 192) s0 P σ2 := by
  obtain ⟨h0, h1, h2, h3, j0, j1, j2, j3, e⟩ := h
  have l := hw.2.1
  have sub : ∀ s, CHX [] [xe] [] s0 s → CHX (RNL a) [xa, xb, xc, xd, xe, xf] [] s0 s := fun s k => CHX.sub k (by simp) (by simp) (by simp)
  have st : ∀ (i : Int) (s : MS) (hh : Int), CHX [] [xe] [] s0 s → 0 ≤ i → i < 4 → JHP T s a i hh → (P ≤ i ∧ hh = -1) ∨ (i < P ∧ hh = c * 192 + τ.2.1 18 (144 * q + i) ∧ 0 ≤ τ.2.1 18 (144 * q + i) ∧ τ.2.1 18 (144 * q + i) < 192) := fun i s hh k a0 a1 j => by
    rw [hP]
    refine JHP.of ((hw.chx (sub s k)).2.2.2 q q0.1 q0.2) gd ?_ ?_ c0 ⟨a0, a1⟩ j
    · rw [k.1 69 a (by decide) (fun z hz => by simp at hz)]; exact e69
    · rw [k.1 57 a (by decide) (fun z hz => by simp at hz)]; exact e57
  have z0 : PWC xe (fun n => τ.2.1 18 (144 * q + n)) (prW u0 u1 u2 u3) (c * 192) s0 (if (0 : Int) < P then 0 else P) s0 := by
    rw [show (if (0 : Int) < P then 0 else P) = 0 by split <;> omega]
    exact PWC.z
  have z1 := pw_step z0 (T := T) (by omega) (by omega) (by decide) (st 0 _ h0 z0.2 (by decide) (by decide) j0) (show u0 = prW u0 u1 u2 u3 0 from rfl)
  have z2 := pw_step z1 (T := T) (by omega) (by omega) (by decide) (st 1 _ h1 z1.2 (by decide) (by decide) j1) (show u1 = prW u0 u1 u2 u3 1 from rfl)
  have z3 := pw_step z2 (T := T) (by omega) (by omega) (by decide) (st 2 _ h2 z2.2 (by decide) (by decide) j2) (show u2 = prW u0 u1 u2 u3 2 from rfl)
  have z4 := pw_step z3 (T := T) (by omega) (by omega) (by decide) (st 3 _ h3 z3.2 (by decide) (by decide) j3) (show u3 = prW u0 u1 u2 u3 3 from rfl)
  rw [← e] at z4
  rw [show (if (0 : Int) + 1 + 1 + 1 + 1 < P then 0 + 1 + 1 + 1 + 1 else P) = P by split <;> omega] at z4
  exact z4
/-- the new call N beside the reference's -/
theorem RXC.push' {N : Int} (hN : N = τ.2.1 73 0) (N0 : 0 ≤ N ∧ N ≤ 8) (old : ∀ c, 0 ≤ c → c < N → (σ.2.1 (1000 + xa) c = τ.2.1 78 c ∧ σ.2.1 (1000 + xb) c = τ.2.1 79 c ∧ σ.2.1 (1000 + xc) c = τ.2.1 80 c) ∧ (∀ g, 0 ≤ g → g < 192 → σ.2.1 (1000 + xe) (c * 192 + g) = τ.2.1 82 (192 * c + g)) ∧ ∀ f, f < 12 → inF (prm τ 0 (τ.2.1 78 c)) (τ.2.1 80 c) f → σ.2.1 (1000 + xd) (c * 12 + f) = τ.2.1 81 (12 * c + f))
    (on : OPN σ s0 a xa xb xc xd xe C N q) (k2 : CHX [] [xe] [] s0 σ2) (d : DX xa xb xc xd xe xf) (ep : prm τ2 0 = prm τ 0) (e73 : τ2.2.1 73 0 = N + 1) (e8 : τ2.2.1 78 N = q ∧ τ2.2.1 79 N = 0 ∧ τ2.2.1 80 N = 0) (eo : ∀ c, 0 ≤ c → c < N → τ2.2.1 78 c = τ.2.1 78 c ∧ τ2.2.1 79 c = τ.2.1 79 c ∧ τ2.2.1 80 c = τ.2.1 80 c)
    (e81 : (∀ j, 0 ≤ j → j < 12 * N → τ2.2.1 81 j = τ.2.1 81 j) ∧ τ2.2.1 81 (12 * N) = 0) (e82 : ∀ j, 0 ≤ j → j < 192 * N → τ2.2.1 82 j = τ.2.1 82 j) (r82 : ∀ j, 0 ≤ j → j < N * 192 → σ2.2.1 (1000 + xe) j = σ.2.1 (1000 + xe) j) (new : ∀ g, 0 ≤ g → g < 192 → σ2.2.1 (1000 + xe) (N * 192 + g) = τ2.2.1 82 (192 * N + g)) (h16 : prm τ 0 q 0 = -1) (hd : σ.2.1 58 a + 1 = dpt τ2 0) : RXC σ2 a xa xb xc xd xe C τ2 := by
  obtain ⟨⟨o1, o2, o3⟩, oa, ob, oc, od, oe, oh⟩ := on
  unfold DX at d
  have fld : ∀ f : Nat, f < 1000 → σ2.2.1 f (a : Int) = s0.2.1 f a := fun f hf => k2.1 f a hf (fun z hz => by simp at hz)
  have ra : σ2.2.1 (1000 + xa) = s0.2.1 (1000 + xa) := k2.r (by simp; omega)
  have rb : σ2.2.1 (1000 + xb) = s0.2.1 (1000 + xb) := k2.r (by simp; omega)
  have rc : σ2.2.1 (1000 + xc) = s0.2.1 (1000 + xc) := k2.r (by simp; omega)
  have rd : σ2.2.1 (1000 + xd) = s0.2.1 (1000 + xd) := k2.r (by simp; omega)
  refine ⟨⟨by omega, by rw [fld 57 (by decide), o1]; omega⟩, by rw [fld 58 (by decide), o2]; exact hd, by rw [fld 69 (by decide), o3, show τ2.2.1 73 0 - 1 = N by omega, e8.1], fun c x0 x1 => ?_⟩
  rw [ra, rb, rc, rd, ep]
  by_cases z : c = N
  · subst z
    rw [oa, ob, oc, if_pos rfl, if_pos rfl, if_pos rfl, e8.1, e8.2.1, e8.2.2]
    refine ⟨⟨rfl, rfl, rfl⟩, new, fun f f1 hf => ?_⟩
    have f0 : f = 0 := by
      rcases hf.dn (by decide) with e | e
      · exact e
      · rw [h16] at e
        obtain ⟨b1, i, b2⟩ := e
        have : ∀ n : Nat, itU (prm τ 0 q) n (-1) = -1 := fun n => by
          cases n with
          | zero => rfl
          | succ n => show (if (-1 : Int) < 0 then -1 else _) = -1; rw [if_pos (by decide)]
        rw [this i] at b2
        omega
    rw [f0, show c * 12 + 0 = c * 12 by omega, od, if_pos rfl, show 12 * c + 0 = 12 * c by omega, e81.2]
  · have q1 := old c x0 (by omega)
    have q2 := eo c x0 (by omega)
    rw [oa, ob, oc, if_neg z, if_neg z, if_neg z, q2.1, q2.2.1, q2.2.2]
    refine ⟨q1.1, fun g g0 g1 => ?_, fun f f1 hf => ?_⟩
    · rw [r82 _ (by omega) (by omega), e82 _ (by omega) (by omega)]
      exact q1.2.1 g g0 g1
    · have f0 := hf.1
      rw [od, if_neg (by omega), e81.1 _ (by omega) (by omega)]
      exact q1.2.2 f f1 hf
/-- CALL -/
theorem sim_call (hx : RXC σ a xa xb xc xd xe C τ) (hw : RWF T σ a xa xb xc xd xe xf y C τ) (gd : GDA τ) (hp4 : PAR τ) (hr : RUN τ 0) (ht : t = τ.2.1 73 0 - 1) (hrr : r = τ.2.1 78 t) (r0 : 0 ≤ r ∧ r < τ.1 10) (p0 : 0 ≤ p ∧ p < τ.2.1 9 r) (hq : q = τ.2.1 5 (220 * r + p)) (q0 : 0 ≤ q ∧ q < τ.1 10) (k10 : τ.2.1 3 (220 * r + p) = 10) (hd : dpt τ 0 ≤ 8) (h : JCF T σ a xa xb xc xd xe y p σ2) (hs : CLX7 τ 0 t (220 * r + p) τ2) : RXC σ2 a xa xb xc xd xe C τ2 ∧ CHX (OPL a) [xa, xb, xc, xd, xe] [] σ σ2 ∧ Fr [] [73, 75, 76, 78, 79, 80, 81, 82] [] τ τ2 ∧ (τ2.2.1 75 = τ.2.1 75 ∧ τ2.2.1 76 = τ.2.1 76) := by
  have ge := hr.ge
  have h73 := hx.1.1
  have h57 := hx.1.2
  have h58 := hx.2.1
  have t6 := gd.1
  obtain ⟨u0, u1, u2, u3, cc, x, s0, o0, o1, o2, o3, e1, e2, oc, pw⟩ := h
  have hc := hw.2.2.2 r r0.1 r0.2
  have e69 := hx.2.2.1
  rw [← ht, ← hrr] at e69
  have ecc : cc = C r := by omega
  subst ecc
  have ex : x = adN σ 5 (C r) := (adN_of e2).symm
  subst ex
  have c2 : cdW σ (C r) p 2 = τ.2.1 5 (220 * r + p) := hc.cel p0.1 p0.2 (by decide) (by decide)
  rw [hc.g p0.1 p0.2 (by decide), c2, ← hq, h57, show τ.2.1 73 0 - 1 + 1 = τ.2.1 73 0 by omega] at oc
  have on := JOC.of hw (by omega) (by omega) (by omega) oc
  have w0 := JOP.w7 (j := 0) hx hw ht hrr r0 p0 (by decide) (by omega) o0
  have w1 := JOP.w7 (j := 1) hx hw ht hrr r0 p0 (by decide) (by omega) o1
  have w2 := JOP.w7 (j := 2) hx hw ht hrr r0 p0 (by decide) (by omega) o2
  have w3 := JOP.w7 (j := 3) hx hw ht hrr r0 p0 (by decide) (by omega) o3
  have gq := gd.2 q q0.1 q0.2
  have pq := hp4 q q0.1 (by omega)
  have ks : CHX (RNL a) [xa, xb, xc, xd, xe, xf] [] σ s0 := CHX.sub on.2.2.2.2.2.2 (by simp) (by simp) (by simp)
  have pc := JPW.of (hw.chx ks) gq q0 (by omega) on.1.1 on.1.2.2 rfl pq pw
  obtain ⟨τ1, ec, f2, pg⟩ := hs
  obtain ⟨f1, c73, c8, c73o, c8o, z81, z82⟩ := ec
  rw [← hq] at pg c8
  rw [show 9 * 0 + τ.2.1 73 0 = τ.2.1 73 0 by omega] at c8 c8o z81 z82
  have fr : Fr [] [73, 75, 76, 78, 79, 80, 81, 82] [] τ τ2 := (Fr.sub f1 (by decide) (by decide) (by decide)).trans (Fr.sub f2 (by decide) (by decide) (by decide))
  have e18 : τ1.2.1 18 = τ.2.1 18 := f1.2.1 18 (by decide)
  have g73 : τ2.2.1 73 = τ1.2.1 73 := f2.2.1 73 (by decide)
  have g78 : τ2.2.1 78 = τ1.2.1 78 := f2.2.1 78 (by decide)
  have g79 : τ2.2.1 79 = τ1.2.1 79 := f2.2.1 79 (by decide)
  have g80 : τ2.2.1 80 = τ1.2.1 80 := f2.2.1 80 (by decide)
  have g81 : τ2.2.1 81 = τ1.2.1 81 := f2.2.1 81 (by decide)
  have wk := hc.2.2.1.1 p p0.1 (by rw [hc.n]; exact p0.2)
  have wa : ∀ n, 0 ≤ n → n < 4 → wA τ1 t (220 * r + p) n = wA τ t (220 * r + p) n := fun n n0 n1 => by
    unfold wA wth
    rw [f1.2.1 7 (by decide), f1.2.1 8 (by decide)]
    by_cases z : τ.2.1 7 (4 * (220 * r + p) + n) = 2
    · have a12 : cdW σ (C r) p (3 + 2 * n) = τ.2.1 7 (4 * (220 * r + p) + n) ∧ cdW σ (C r) p (4 + 2 * n) = τ.2.1 8 (4 * (220 * r + p) + n) := by
        have q : n = 0 ∨ n = 1 ∨ n = 2 ∨ n = 3 := by omega
        rcases q with z | z | z | z
        · subst z; exact ⟨hc.c3 p0.1 p0.2 (by omega), hc.cel (e := 4) p0.1 p0.2 (by decide) (by decide)⟩
        · subst z; exact ⟨hc.cel (e := 5) p0.1 p0.2 (by decide) (by decide), hc.cel (e := 6) p0.1 p0.2 (by decide) (by decide)⟩
        · subst z; exact ⟨hc.cel (e := 7) p0.1 p0.2 (by decide) (by decide), hc.cel (e := 8) p0.1 p0.2 (by decide) (by decide)⟩
        · subst z; exact ⟨hc.cel (e := 9) p0.1 p0.2 (by decide) (by decide), hc.cel (e := 10) p0.1 p0.2 (by decide) (by decide)⟩
      have g2 := (wk.2.2.1 n n0 n1).2 (by rw [a12.1]; exact z)
      rw [a12.2] at g2
      rw [if_pos z, if_pos z, z82 _, if_neg (by omega)]
    · rw [if_neg z, if_neg z]
  refine ⟨?_, on.2.2.2.2.2.2.trans (CHX.sub pc.2 (by simp) (by simp) (by simp)), fr, (f2.2.1 75 (by decide)).trans (f1.2.1 75 (by decide)), (f2.2.1 76 (by decide)).trans (f1.2.1 76 (by decide))⟩
  refine RXC.push' (N := τ.2.1 73 0) rfl (by omega) hx.2.2.2 on pc.2 hw.1 (by funext u; exact prm_fr fr (by decide) 0 u) (by rw [g73, c73]) (by rw [g78, g79, g80]; exact c8) (fun c a0 a1 => by rw [g78, g79, g80]; exact c8o c (by omega)) ⟨fun j a0 a1 => by rw [g81, z81 j, if_neg (by omega)], by rw [g81, z81 _, if_pos (by omega)]⟩ (fun j a0 a1 => ?_) (fun j a0 a1 => ?_) (fun g g0 g1 => ?_) ?_ ?_
  · rw [pg j, if_neg (by omega), z82 j, if_neg (by omega)]
  · rw [pc.1 j, if_neg (by omega), on.2.2.2.2.2.1 j, if_neg (by omega)]
  · rw [pc.1 _, if_pos (by omega), pg _, if_pos (by omega), show τ.2.1 73 0 * 192 + g - τ.2.1 73 0 * 192 = g by omega, show 192 * τ.2.1 73 0 + g - (192 * t + 192) = g by omega]
    refine pwR_c (fun i i0 i1 => ⟨?_, ?_⟩) ?_
    · show τ.2.1 18 (144 * q + i) = hmP τ1 0 q i
      unfold hmP
      rw [if_neg (by decide), e18]
    · rw [wa i i0 (by omega)]
      have qi : i = 0 ∨ i = 1 ∨ i = 2 ∨ i = 3 := by omega
      rcases qi with z | z | z | z <;> subst z
      · exact w0
      · exact w1
      · exact w2
      · exact w3
    · show s0.2.1 (1000 + xe) (τ.2.1 73 0 * 192 + g) = τ1.2.1 82 (192 * t + 192 + g)
      rw [on.2.2.2.2.2.1 _, if_pos (by omega), z82 _, if_pos (by omega)]
  · show (if (0 : Int) = 2 then -1 else τ.2.1 16 (12 * q + 0)) = -1
    rw [if_neg (by decide)]
    exact gq.2.2.2.2.2.2.1.1
  · rw [dpt_push fr (by decide) (by omega) (by rw [g73, c73]) (fun c a0 a1 => by rw [g78, g80]; exact ⟨(c8o c (by omega)).1, (c8o c (by omega)).2.2⟩), g78, g80, c8.1, c8.2.2, dp_0 ((gd.bka (by decide)).2 q q0.1 q0.2), h58]
end OPEN7

