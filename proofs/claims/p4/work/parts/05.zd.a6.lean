/-! the class's tokens -/
def sgL : List Int := [40, 41, 123, 125, 44, 59, 61, 60, 43, 45, 42]
def SGI (one i1 : Int) : Prop := ∀ j : Nat, (j : Int) < i1 → iI one ≠ sgB.getD j 0
def SGQ (one v : Int) : Prop := (v = 1 → one ∈ sgL) ∧ (v = 0 → one ∉ sgL)
theorem sgB_iff {z : Int} (h : -2147483648 ≤ z ∧ z ≤ 2147483647) : z ∈ sgL ↔ ∃ j : Nat, j < 11 ∧ iI z = sgB.getD j 0 := by
  have f : ∀ c : Int, (-2147483648 ≤ c ∧ c ≤ 2147483647) → (iI z = iI c ↔ z = c) := fun c hc => iI_eq h hc
  constructor
  · intro q
    simp only [sgL, List.mem_cons, List.not_mem_nil, or_false] at q
    rcases q with q | q | q | q | q | q | q | q | q | q | q
    · exact ⟨0, by decide, by rw [q]; rfl⟩
    · exact ⟨1, by decide, by rw [q]; rfl⟩
    · exact ⟨2, by decide, by rw [q]; rfl⟩
    · exact ⟨3, by decide, by rw [q]; rfl⟩
    · exact ⟨4, by decide, by rw [q]; rfl⟩
    · exact ⟨5, by decide, by rw [q]; rfl⟩
    · exact ⟨6, by decide, by rw [q]; rfl⟩
    · exact ⟨7, by decide, by rw [q]; rfl⟩
    · exact ⟨8, by decide, by rw [q]; rfl⟩
    · exact ⟨9, by decide, by rw [q]; rfl⟩
    · exact ⟨10, by decide, by rw [q]; rfl⟩
  · rintro ⟨j, hj, e⟩
    simp only [sgL, List.mem_cons, List.not_mem_nil, or_false]
    have : j = 0 ∨ j = 1 ∨ j = 2 ∨ j = 3 ∨ j = 4 ∨ j = 5 ∨ j = 6 ∨ j = 7 ∨ j = 8 ∨ j = 9 ∨ j = 10 := by omega
    rcases this with q | q | q | q | q | q | q | q | q | q | q <;> subst q
    · have := (f 40 (by decide)).mp e; omega
    · have := (f 41 (by decide)).mp e; omega
    · have := (f 123 (by decide)).mp e; omega
    · have := (f 125 (by decide)).mp e; omega
    · have := (f 44 (by decide)).mp e; omega
    · have := (f 59 (by decide)).mp e; omega
    · have := (f 61 (by decide)).mp e; omega
    · have := (f 60 (by decide)).mp e; omega
    · have := (f 43 (by decide)).mp e; omega
    · have := (f 45 (by decide)).mp e; omega
    · have := (f 42 (by decide)).mp e; omega
theorem SGI.no {z i1 : Int} (h : SGI z i1) (hi : 11 ≤ i1) (hz : -2147483648 ≤ z ∧ z ≤ 2147483647) : z ∉ sgL := fun q => by
  obtain ⟨j, hj, e⟩ := (sgB_iff hz).mp q
  exact h j (by omega) e
theorem SGI.up {z i1 v : Int} (h : SGI z i1) (h0 : 0 ≤ i1) (hv : inR v ∧ iI v = sgB.getD i1.toNat 0) (hz : -2147483648 ≤ z ∧ z ≤ 2147483647) (hn : ¬ v = z) : SGI z (i1 + 1) := fun j hj => by
  by_cases e : (j : Int) = i1
  · have e2 : j = i1.toNat := by omega
    rw [e2, ← hv.2]
    exact fun q => hn ((iI_eq hz hv.1).mp q).symm
  · exact h j (by omega)
/-- the signs of the reference -/
theorem sgZ_fin : ∀ n : Fin 256, (sgZ ((n : Nat) : Int) < 0 ↔ ((n : Nat) : Int) ∉ sgL) := by decide +kernel
theorem sgZ_iff {z : Int} (h : 0 ≤ z ∧ z ≤ 255) : sgZ z < 0 ↔ z ∉ sgL := by
  have q := sgZ_fin ⟨z.toNat, by omega⟩
  have e : ((z.toNat : Nat) : Int) = z := by omega
  rw [show (((⟨z.toNat, by omega⟩ : Fin 256) : Nat) : Int) = z from e] at q
  exact q
/-- words -/
def wkF (x : Int) : Int := if x = 16052 then 258 else if x = 609900110 then 259 else if x = 294 then 260 else if x = 176741 then 261 else if x = 24388997 then 262 else 256
def WKI (x i1 : Int) : Prop := ∀ j : Nat, (j : Int) < i1 → iI x ≠ wkI.getD j 0
theorem WKI.up {x i1 v : Int} (h : WKI x i1) (h0 : 0 ≤ i1) (hv : inR v ∧ iI v = wkI.getD i1.toNat 0) (hz : -2147483648 ≤ x ∧ x ≤ 2147483647) (hn : ¬ v = x) : WKI x (i1 + 1) := fun j hj => by
  by_cases e : (j : Int) = i1
  · have e2 : j = i1.toNat := by omega
    rw [e2, ← hv.2]
    exact fun q => hn ((iI_eq hz hv.1).mp q).symm
  · exact h j (by omega)
theorem wk_at {x c : Int} {j : Nat} (hx : -2147483648 ≤ x ∧ x ≤ 2147483647) (hc : -2147483648 ≤ c ∧ c ≤ 2147483647) (e : wkI.getD j 0 = iI c) : iI x = wkI.getD j 0 ↔ x = c := by rw [e]; exact iI_eq hx hc
theorem WKI.yes {x i1 v : Int} (h : WKI x i1) (h0 : 0 ≤ i1 ∧ i1 < 5) (hv : inR v ∧ iI v = wkI.getD i1.toNat 0) (hx : -2147483648 ≤ x ∧ x ≤ 2147483647) (he : v = x) : 258 + i1 = wkF x := by
  rw [he] at hv
  have a0 := wk_at (x := x) (c := 16052) (j := 0) hx (by decide) rfl
  have a1 := wk_at (x := x) (c := 609900110) (j := 1) hx (by decide) rfl
  have a2 := wk_at (x := x) (c := 294) (j := 2) hx (by decide) rfl
  have a3 := wk_at (x := x) (c := 176741) (j := 3) hx (by decide) rfl
  have a4 := wk_at (x := x) (c := 24388997) (j := 4) hx (by decide) rfl
  have hh : i1 = 0 ∨ i1 = 1 ∨ i1 = 2 ∨ i1 = 3 ∨ i1 = 4 := by omega
  have q := hv.2
  unfold wkF
  rcases hh with r | r | r | r | r <;> subst r
  · have := a0.mp q; rw [if_pos this]; rfl
  · have := a1.mp q; rw [this]; rfl
  · have := a2.mp q; rw [this]; rfl
  · have := a3.mp q; rw [this]; rfl
  · have := a4.mp q; rw [this]; rfl
theorem WKI.no {x i1 : Int} (h : WKI x i1) (h5 : 5 ≤ i1) (hx : -2147483648 ≤ x ∧ x ≤ 2147483647) : 256 = wkF x := by
  have a0 := wk_at (x := x) (c := 16052) (j := 0) hx (by decide) rfl
  have a1 := wk_at (x := x) (c := 609900110) (j := 1) hx (by decide) rfl
  have a2 := wk_at (x := x) (c := 294) (j := 2) hx (by decide) rfl
  have a3 := wk_at (x := x) (c := 176741) (j := 3) hx (by decide) rfl
  have a4 := wk_at (x := x) (c := 24388997) (j := 4) hx (by decide) rfl
  unfold wkF
  rw [if_neg (fun q => h 0 (by omega) (a0.mpr q)), if_neg (fun q => h 1 (by omega) (a1.mpr q)), if_neg (fun q => h 2 (by omega) (a2.mpr q)), if_neg (fun q => h 3 (by omega) (a3.mpr q)), if_neg (fun q => h 4 (by omega) (a4.mpr q))]
theorem wkF_ck {l : List Int} {p q v : Int} (hl : LTR l) (h6 : l.length ≤ 6) : wkF (k5 l) = ckd (p, q, 2, v, Int64.ofInt (w8 l)) := by
  unfold wkF ckd
  simp only
  rw [if_neg (show ¬ (2 : Int) = 0 by decide), if_neg (show ¬ (2 : Int) = 1 by decide), if_neg (show ¬ (2 : Int) = 3 by decide), if_neg (show ¬ (2 : Int) = 4 by decide)]
  have b0 := wk_out hl h6
  have b1 := wk_ret hl h6
  have b2 := wk_if hl h6
  have b3 := wk_els hl h6
  have b4 := wk_whi hl h6
  by_cases c0 : k5 l = 16052
  · rw [if_pos c0, if_pos (b0.mp c0)]
  rw [if_neg c0, if_neg (fun z => c0 (b0.mpr z))]
  by_cases c1 : k5 l = 609900110
  · rw [if_pos c1, if_pos (b1.mp c1)]
  rw [if_neg c1, if_neg (fun z => c1 (b1.mpr z))]
  by_cases c2 : k5 l = 294
  · rw [if_pos c2, if_pos (b2.mp c2)]
  rw [if_neg c2, if_neg (fun z => c2 (b2.mpr z))]
  by_cases c3 : k5 l = 176741
  · rw [if_pos c3, if_pos (b3.mp c3)]
  rw [if_neg c3, if_neg (fun z => c3 (b3.mpr z))]
  by_cases c4 : k5 l = 24388997
  · rw [if_pos c4, if_pos (b4.mp c4)]
  rw [if_neg c4, if_neg (fun z => c4 (b4.mpr z))]
/-! the tape as it is read -/
def svC (f : Int → Int) (n : Int) : Int → Int := fun k => if k < n then (if f k < 0 then f k + 256 else f k) else -1
def BYT (f : Int → Int) : Prop := ∀ k, -128 ≤ f k ∧ f k ≤ 127
theorem svC_sb {f : Int → Int} {n : Int} (h : BYT f) : SB (svC f n) := fun k => by
  have q := h k
  unfold svC
  by_cases a : k < n
  · rw [if_pos a]
    by_cases b : f k < 0
    · rw [if_pos b]; omega
    · rw [if_neg b]; omega
  · rw [if_neg a]; omega
theorem svC_in {f : Int → Int} {n k : Int} (a : k < n) : svC f n k = if f k < 0 then f k + 256 else f k := by unfold svC; rw [if_pos a]
theorem svC_out {f : Int → Int} {n k : Int} (a : n ≤ k) : svC f n k = -1 := by unfold svC; rw [if_neg (by omega)]
theorem svC_sen {f : Int → Int} {n : Int} (h : n ≤ 1300) : SEN (svC f n) := fun k hk => by rw [svC_out (by omega)]; decide
theorem svC_eq {f : Int → Int} {n k lo hi : Int} (h : BYT f) (a : k < n) (h0 : 0 ≤ lo) (h1 : hi ≤ 127) : (lo ≤ svC f n k ∧ svC f n k ≤ hi) ↔ (lo ≤ f k ∧ f k ≤ hi) := by
  have q := h k
  rw [svC_in a]
  by_cases b : f k < 0
  · rw [if_pos b]; omega
  · rw [if_neg b]
/-- the row's bytes, as far as they are read -/
def RWE (σ : MS) (x : Nat) (f : Int → Int) (n : Int) : Prop := ∀ k, 0 ≤ k → k < n → σ.2.1 (1000 + x) k = f k
theorem RWE.cg {σ τ : MS} {x : Nat} {f : Int → Int} {n : Int} (h : RWE σ x f n) (e : τ.2.1 (1000 + x) = σ.2.1 (1000 + x)) : RWE τ x f n := fun k a b => by rw [e]; exact h k a b
/-- a run of letters, of digits so far: from p up to e -/
def LTN (S : Int → Int) (p e : Int) : Prop := ∀ j : Nat, (j : Int) < e - p → 97 ≤ S (p + j) ∧ S (p + j) ≤ 122
def DGN (S : Int → Int) (p e : Int) : Prop := ∀ j : Nat, (j : Int) < e - p → 48 ≤ S (p + j) ∧ S (p + j) ≤ 57
theorem LTN.up {S : Int → Int} {p e : Int} (h : LTN S p e) (hp : p ≤ e) (q : 97 ≤ S e ∧ S e ≤ 122) : LTN S p (e + 1) := fun j hj => by
  by_cases z : (j : Int) = e - p
  · rw [show p + (j : Int) = e by omega]; exact q
  · exact h j (by omega)
theorem DGN.up {S : Int → Int} {p e : Int} (h : DGN S p e) (hp : p ≤ e) (q : 48 ≤ S e ∧ S e ≤ 57) : DGN S p (e + 1) := fun j hj => by
  by_cases z : (j : Int) = e - p
  · rw [show p + (j : Int) = e by omega]; exact q
  · exact h j (by omega)
def NUM9 (S : Int → Int) (p e x : Int) : Prop := e - p ≤ 6 → x = k5 (lts S p (e - p).toNat)
theorem NUM9.up {S : Int → Int} {p e x : Int} (h : NUM9 S p e x) (hl : LTN S p e) (hp : p ≤ e) (q : 97 ≤ S e ∧ S e ≤ 122) : NUM9 S p (e + 1) (sh5 x (S e - 96)) := fun z => by
  have w := h (by omega)
  have e1 : (e + 1 - p).toNat = (e - p).toNat + 1 := by omega
  rw [e1]
  show _ = 32 * k5 (lts S p (e - p).toNat) + (S (p + ((e - p).toNat : Nat)) - 96)
  rw [show p + (((e - p).toNat : Nat) : Int) = e by omega, ← w]
  have ll : LTR (lts S p (e - p).toNat) := lts_ltr _ (fun j hj => hl j (by omega))
  have b0 := k5_0 _ ll
  have b1 := k5_b 5 _ ll (by rw [lts_len]; omega)
  rw [show (32 : Int) ^ 5 = 33554432 by decide] at b1
  exact sh5_eq (by omega) (by omega) (by omega)
/-- what one token is -/
def SOQ (S : Int → Int) (i v kd num : Int) : Prop := v = (advP S i).2.1 ∧ kd = ckd (advP S i) ∧ NKY (advP S i) num
theorem so_let {S : Int → Int} {p e x : Int} (hp : p < e) (he : e ≤ 1300) (hl : LTN S p e) (hx : NUM9 S p e x) (hn : ¬ (97 ≤ S e ∧ S e ≤ 122)) : (e - p ≤ 6 → SOQ S p e (wkF x) x) ∧ (6 < e - p → SOQ S p e 263 x) := by
  obtain ⟨n, hnn⟩ : ∃ n : Nat, e = p + (n : Int) := ⟨(e - p).toNat, by omega⟩
  have l0 : 97 ≤ S p ∧ S p ≤ 122 := by have := hl 0 (by omega); rw [show p + ((0 : Nat) : Int) = p by omega] at this; exact this
  have hl2 : ∀ j : Nat, j < n → 97 ≤ S (p + j) ∧ S (p + j) ≤ 122 := fun j hj => hl j (by omega)
  have hc := ltp_cnt n (p := p) (c := 0) (w := 0) (by omega) hl2 (by rw [← hnn]; exact hn)
  have hA : advP S p = (p, (ltp S p 0 0).1, if 6 < (ltp S p 0 0).2.2 then 1 else 2, S p, (ltp S p 0 0).2.1) := by
    unfold advP
    rw [if_neg (by omega), if_pos l0]
  constructor
  · intro z
    have hr := ltp_run n (by omega) (by omega) hl2
    have hr2 := hr.trans (ltp_e (s := S) (n := p + (n : Int)) (by rw [← hnn]; exact hn))
    clear hr
    have hr := hr2
    rw [hr] at hA
    have e2 : advP S p = (p, p + (n : Int), 2, S p, Int64.ofInt (w8 (lts S p n))) := by
      rw [hA]
      show (p, p + (n : Int), (if 6 < (n : Int) then (1 : Int) else 2), S p, Int64.ofInt (w8 (lts S p n))) = _
      rw [if_neg (by omega)]
    have w := hx z
    rw [show (e - p).toNat = n by omega] at w
    have ll := lts_ltr n hl2
    have l6 : (lts S p n).length ≤ 6 := by rw [lts_len]; omega
    refine ⟨by rw [e2]; exact hnn, ?_, fun _ => ?_⟩
    · rw [e2, w]; exact wkF_ck ll l6
    · rw [e2]; exact ⟨_, ll, l6, w, rfl⟩
  · intro z
    have e2 : (advP S p).2.2.1 = 1 := by
      rw [hA]
      show (if 6 < (ltp S p 0 0).2.2 then (1 : Int) else 2) = 1
      rw [if_pos (by omega)]
    refine ⟨by rw [hA]; show e = (ltp S p 0 0).1; omega, ?_, fun q => by rw [e2] at q; exact absurd q (by decide)⟩
    unfold ckd
    rw [e2, if_neg (by decide), if_pos rfl]
theorem so_dig {S : Int → Int} {p e x : Int} (hp : p < e) (he : e ≤ 1300) (hl : DGN S p e) (hn : ¬ (48 ≤ S e ∧ S e ≤ 57)) : (e - p ≤ 7 → SOQ S p e 257 x) ∧ (7 < e - p → SOQ S p e 263 x) := by
  obtain ⟨n, hnn⟩ : ∃ n : Nat, e = p + (n : Int) := ⟨(e - p).toNat, by omega⟩
  have l0 : 48 ≤ S p ∧ S p ≤ 57 := by have := hl 0 (by omega); rw [show p + ((0 : Nat) : Int) = p by omega] at this; exact this
  have hl2 : ∀ j : Nat, j < n → 48 ≤ S (p + j) ∧ S (p + j) ≤ 57 := fun j hj => hl j (by omega)
  have hc := dgp_cnt n (p := p) (c := 0) (v := 0) (by omega) hl2 (by rw [← hnn]; exact hn)
  have hA : advP S p = (p, (dgp S p 0 0).1, if 7 < (dgp S p 0 0).2.2 then 1 else 3, (dgp S p 0 0).2.1, 0) := by
    unfold advP
    rw [if_neg (by omega), if_neg (by omega), if_pos l0]
  constructor
  · intro z
    have e2 : (advP S p).2.2.1 = 3 := by
      rw [hA]
      show (if 7 < (dgp S p 0 0).2.2 then (1 : Int) else 3) = 3
      rw [if_neg (by omega)]
    refine ⟨by rw [hA]; show e = (dgp S p 0 0).1; omega, ?_, fun q => by rw [e2] at q; exact absurd q (by decide)⟩
    unfold ckd
    rw [e2, if_neg (by decide), if_neg (by decide), if_pos rfl]
  · intro z
    have e2 : (advP S p).2.2.1 = 1 := by
      rw [hA]
      show (if 7 < (dgp S p 0 0).2.2 then (1 : Int) else 3) = 1
      rw [if_pos (by omega)]
    refine ⟨by rw [hA]; show e = (dgp S p 0 0).1; omega, ?_, fun q => by rw [e2] at q; exact absurd q (by decide)⟩
    unfold ckd
    rw [e2, if_neg (by decide), if_pos rfl]
theorem so_sgn {S : Int → Int} {p x : Int} (h0 : 0 ≤ S p ∧ S p ≤ 255) (hl : ¬ (97 ≤ S p ∧ S p ≤ 122)) (hd : ¬ (48 ≤ S p ∧ S p ≤ 57)) : (S p ∈ sgL → SOQ S p (p + 1) (S p) x) ∧ (S p ∉ sgL → SOQ S p (p + 1) 263 x) := by
  have hA : advP S p = (p, p + 1, if sgZ (S p) < 0 then 1 else 4, S p, 0) := by
    unfold advP
    rw [if_neg (by omega), if_neg hl, if_neg hd]
  have hz := sgZ_iff h0
  constructor
  · intro q
    rw [if_neg (fun z => hz.mp z q)] at hA
    refine ⟨by rw [hA], ?_, fun w => by rw [hA] at w; exact absurd w (by show ¬ (4 : Int) = 2; decide)⟩
    rw [hA]; rfl
  · intro q
    rw [if_pos (hz.mpr q)] at hA
    refine ⟨by rw [hA], ?_, fun w => by rw [hA] at w; exact absurd w (by show ¬ (1 : Int) = 2; decide)⟩
    rw [hA]; rfl
/-! all tokens -/
def TRN (σ : MS) (t : Nat) (S : Int → Int) (n : Int) : Prop := ∀ k u p : Nat, σ.2.1 81 t = (k : Int) → σ.2.1 82 t = (u : Int) → σ.2.1 83 t = (p : Int) → ∀ i : Nat, (i : Int) < n → σ.2.1 (1000 + k) i = ckd (tkS S i) ∧ NKY (tkS S i) (σ.2.1 (1000 + u) i) ∧ σ.2.1 (1000 + p) i = (tkS S i).1
def SCI (σ : MS) (t : Nat) (S : Int → Int) (n i : Int) : Prop := TRN σ t S n ∧ ((σ.2.1 85 t ≠ 263 ∧ advT S i = tkS S n.toNat ∧ ∀ j : Nat, (j : Int) < n → ckd (tkS S j) ≠ 263 ∧ ckd (tkS S j) ≠ 264) ∨ (σ.2.1 85 t = 263 ∧ 1 ≤ n ∧ TEN S (n - 1).toNat))
/-- rows behind keep -/
def KPQ (σ τ : MS) (t : Nat) (n kd num pl : Int) : Prop := (∀ k : Nat, σ.2.1 81 t = (k : Int) → ∀ i, τ.2.1 (1000 + k) i = if i = n then kd else σ.2.1 (1000 + k) i) ∧ (∀ k : Nat, σ.2.1 82 t = (k : Int) → ∀ i, τ.2.1 (1000 + k) i = if i = n then num else σ.2.1 (1000 + k) i) ∧ (∀ k : Nat, σ.2.1 83 t = (k : Int) → ∀ i, τ.2.1 (1000 + k) i = if i = n then pl else σ.2.1 (1000 + k) i)
section SCS
variable {σ τ : MS} {t : Nat} {S : Int → Int} {n i v kd num : Int}
theorem SCI.bl (h : SCI σ t S n i) (hk : σ.2.1 85 t ≠ 263) (hb : S i = 10 ∨ S i = 32) (hi : i < 1300) : SCI σ t S n (i + 1) := by
  refine ⟨h.1, ?_⟩
  rcases h.2 with q | q
  · refine Or.inl ⟨q.1, ?_, q.2.2⟩
    rw [← q.2.1]
    unfold advT
    rw [wsp_s hi hb]
  · exact absurd q.1 hk
theorem advP_ne0 {p : Int} (h : 0 ≤ S p) : (advP S p).2.2.1 ≠ 0 := by
  unfold advP
  rw [if_neg (by omega)]
  by_cases c1 : 97 ≤ S p ∧ S p ≤ 122
  · rw [if_pos c1]
    by_cases z : 6 < (ltp S p 0 0).2.2
    · show (if 6 < (ltp S p 0 0).2.2 then (1 : Int) else 2) ≠ 0
      rw [if_pos z]; decide
    · show (if 6 < (ltp S p 0 0).2.2 then (1 : Int) else 2) ≠ 0
      rw [if_neg z]; decide
  rw [if_neg c1]
  by_cases c2 : 48 ≤ S p ∧ S p ≤ 57
  · rw [if_pos c2]
    by_cases z : 7 < (dgp S p 0 0).2.2
    · show (if 7 < (dgp S p 0 0).2.2 then (1 : Int) else 3) ≠ 0
      rw [if_pos z]; decide
    · show (if 7 < (dgp S p 0 0).2.2 then (1 : Int) else 3) ≠ 0
      rw [if_neg z]; decide
  rw [if_neg c2]
  by_cases z : sgZ (S p) < 0
  · show (if sgZ (S p) < 0 then (1 : Int) else 4) ≠ 0
    rw [if_pos z]; decide
  · show (if sgZ (S p) < 0 then (1 : Int) else 4) ≠ 0
    rw [if_neg z]; decide
theorem TRN.up (h : TRN σ t S n) (h0 : 0 ≤ n) (hf : ∀ k ∈ [81, 82, 83], τ.2.1 k = σ.2.1 k) (hr : KPQ σ τ t n kd num i) (e1 : kd = ckd (tkS S n.toNat)) (e2 : NKY (tkS S n.toNat) num) (e3 : i = (tkS S n.toNat).1) : TRN τ t S (n + 1) := fun k u p hk hu hp j hj => by
  rw [hf 81 (by decide)] at hk
  rw [hf 82 (by decide)] at hu
  rw [hf 83 (by decide)] at hp
  rw [hr.1 k hk j, hr.2.1 u hu j, hr.2.2 p hp j]
  by_cases z : (j : Int) = n
  · have ej : n.toNat = j := by omega
    rw [if_pos z, if_pos z, if_pos z]
    rw [ej] at e1 e2 e3
    exact ⟨e1, e2, e3⟩
  · rw [if_neg z, if_neg z, if_neg z]
    exact h k u p hk hu hp j (by omega)
theorem SCI.tk (h : SCI σ t S n i) (hS : SB S) (he : SEN S) (h0 : 0 ≤ n) (hk : σ.2.1 85 t ≠ 263) (hb : ¬ (S i = 10 ∨ S i = 32)) (hi : 0 ≤ S i) (hq : SOQ S i v kd num) (hf : ∀ k ∈ [81, 82, 83], τ.2.1 k = σ.2.1 k) (hr : KPQ σ τ t n kd num i) (h85 : τ.2.1 85 t = kd) : SCI τ t S (n + 1) v := by
  rcases h.2 with q | q
  · obtain ⟨q1, q2, q3⟩ := q
    have a1 : advT S i = advP S i := by unfold advT; rw [wsp_e hb]
    rw [a1] at q2
    obtain ⟨s1, s2, s3⟩ := hq
    rw [q2] at s1 s2 s3
    have n1 : ((n + 1).toNat) = n.toNat + 1 := by omega
    have w := advP_w he i
    rw [q2] at w
    have ne := advP_ne0 (S := S) hi
    rw [q2] at ne
    refine ⟨h.1.up h0 hf hr s2 s3 w.1.symm, ?_⟩
    by_cases z : kd = 263
    · refine Or.inr ⟨by rw [h85]; exact z, by omega, ?_⟩
      rw [show (n + 1 - 1).toNat = n.toNat by omega]
      exact ⟨fun j hj => q3 j (by omega), Or.inl (by rw [← s2]; exact z)⟩
    · refine Or.inl ⟨by rw [h85]; exact z, ?_, fun j hj => ?_⟩
      · rw [n1, s1]; rfl
      · by_cases y : (j : Int) = n
        · have ej : j = n.toNat := by omega
          rw [ej, ← s2]
          refine ⟨z, fun r => ?_⟩
          rw [s2] at r
          exact ne ((ck_end (tkS_v hS n.toNat)).mp r)
        · exact q3 j (by omega)
  · exact absurd q.1 hk
theorem TRN.tw {m : Nat} (h : TRN σ t S n) (hm : (m : Int) < n) : TRW σ t S m := fun k u p hk hu hp j hj => h k u p hk hu hp j (by omega)
/-- the end -/
theorem SCI.en {l : Int} (h : SCI σ t S n l) (h0 : 0 ≤ n) (hk : σ.2.1 85 t ≠ 263) (hl : S l < 0) (hf : ∀ k ∈ [81, 82, 83], τ.2.1 k = σ.2.1 k) (hr : KPQ σ τ t n 264 num l) : TRW τ t S n.toNat ∧ TEN S n.toNat := by
  rcases h.2 with q | q
  · obtain ⟨q1, q2, q3⟩ := q
    have a1 : advT S l = (l, l, 0, S l, 0) := by
      unfold advT
      rw [wsp_e (by omega)]
      unfold advP
      rw [if_pos hl]
    rw [a1] at q2
    have c1 : ckd (tkS S n.toNat) = 264 := by rw [← q2]; rfl
    refine ⟨(h.1.up h0 hf hr c1.symm (fun z => ?_) (by rw [← q2])).tw (by omega), fun j hj => q3 j (by omega), Or.inr c1⟩
    rw [← q2] at z
    exact absurd z (by show ¬ (0 : Int) = 2; decide)
  · exact absurd q.1 hk
theorem SCI.bd (h : SCI σ t S n i) (hk : σ.2.1 85 t = 263) : 1 ≤ n ∧ TRW σ t S (n - 1).toNat ∧ TEN S (n - 1).toNat := by
  rcases h.2 with q | q
  · exact absurd hk q.1
  · exact ⟨q.2.1, h.1.tw (by have := q.2.1; omega), q.2.2⟩
theorem TRN.cg (h : TRN σ t S n) (hf : ∀ k ∈ [81, 82, 83], τ.2.1 k = σ.2.1 k) (hr : ∀ x : Nat, (σ.2.1 81 t = (x : Int) ∨ σ.2.1 82 t = (x : Int) ∨ σ.2.1 83 t = (x : Int)) → τ.2.1 (1000 + x) = σ.2.1 (1000 + x)) : TRN τ t S n := fun k u p hk hu hp => by
  rw [hf 81 (by decide)] at hk
  rw [hf 82 (by decide)] at hu
  rw [hf 83 (by decide)] at hp
  rw [hr k (Or.inl hk), hr u (Or.inr (Or.inl hu)), hr p (Or.inr (Or.inr hp))]
  exact h k u p hk hu hp
end SCS
theorem sgL_r {z : Int} (h : z ∈ sgL) : 40 ≤ z ∧ z ≤ 125 := by
  simp only [sgL, List.mem_cons, List.not_mem_nil, or_false] at h
  omega
theorem so_sg2 {f : Int → Int} {n p x v : Int} (hB : BYT f) (hp : p < n) (hl : ¬ (97 ≤ svC f n p ∧ svC f n p ≤ 122)) (hd : ¬ (48 ≤ svC f n p ∧ svC f n p ≤ 57)) (q : SGQ (f p) v) : (v = 1 → SOQ (svC f n) p (p + 1) (f p) x) ∧ (v = 0 → SOQ (svC f n) p (p + 1) 263 x) := by
  have b := hB p
  have e := svC_in (f := f) hp
  have r : 0 ≤ svC f n p ∧ svC f n p ≤ 255 := by
    rw [e]
    by_cases z : f p < 0
    · rw [if_pos z]; omega
    · rw [if_neg z]; omega
  have s := so_sgn (x := x) r hl hd
  constructor
  · intro w
    have m := q.1 w
    have m2 := sgL_r m
    rw [if_neg (by omega)] at e
    have s1 := s.1 (by rw [e]; exact m)
    rw [e] at s1
    exact s1
  · intro w
    refine s.2 (fun m => ?_)
    have m2 := sgL_r m
    rw [e] at m m2
    by_cases z : f p < 0
    · rw [if_pos z] at m2; omega
    · rw [if_neg z] at m; exact q.2 w m
theorem sh5_r (x y : Int) : -2147483648 ≤ sh5 x y ∧ sh5 x y ≤ 2147483647 := inR_toInt _
theorem not_let {f : Int → Int} {n k : Int} {S : Int → Int} (hS : S = svC f n) (hB : BYT f) (h : n ≤ k ∨ f k < 97 ∨ 122 < f k) : ¬ (97 ≤ S k ∧ S k ≤ 122) := fun q => by
  rw [hS] at q
  by_cases z : k < n
  · have w := (svC_eq hB z (by decide) (by decide)).mp q; omega
  · rw [svC_out (by omega)] at q; omega
theorem not_dig {f : Int → Int} {n k : Int} {S : Int → Int} (hS : S = svC f n) (hB : BYT f) (h : n ≤ k ∨ f k < 48 ∨ 57 < f k) : ¬ (48 ≤ S k ∧ S k ≤ 57) := fun q => by
  rw [hS] at q
  by_cases z : k < n
  · have w := (svC_eq hB z (by decide) (by decide)).mp q; omega
  · rw [svC_out (by omega)] at q; omega
theorem is_byte {f : Int → Int} {n k : Int} {S : Int → Int} (hS : S = svC f n) (hk : k < n) (h : 0 ≤ f k) : S k = f k := by rw [hS, svC_in hk, if_neg (by omega)]
theorem not_blk {f : Int → Int} {n k : Int} {S : Int → Int} (hS : S = svC f n) (hB : BYT f) (hk : k < n) (h1 : f k ≠ 32) (h2 : f k ≠ 10) : ¬ (S k = 10 ∨ S k = 32) := fun q => by
  have b := hB k
  rw [hS, svC_in hk] at q
  by_cases z : f k < 0
  · rw [if_pos z] at q; omega
  · rw [if_neg z] at q; omega
theorem in_byte {f : Int → Int} {n k : Int} {S : Int → Int} (hS : S = svC f n) (hB : BYT f) (hk : k < n) : 0 ≤ S k := by
  have b := hB k
  rw [hS, svC_in hk]
  by_cases z : f k < 0
  · rw [if_pos z]; omega
  · rw [if_neg z]; omega

