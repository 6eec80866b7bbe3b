/-! new things -/
def tT (T : CT) (x k n : Nat) : CT := fun a => if a = x then (k, n) else T a
theorem tT_eq {T : CT} {x k n : Nat} : tT T x k n x = (k, n) := if_pos rfl
theorem tT_ne {T : CT} {x k n a : Nat} (h : a ≠ x) : tT T x k n a = T a := if_neg h
def gh (n : Nat) (σ : MS) : MS := (fun j => if j = 0 then σ.1 0 + n else if j = 1 then σ.1 1 + 1 else σ.1 j, σ.2)
def rowS (r : Nat) (f : Int → Int) (σ : MS) : MS := (σ.1, fun j => if j = r then f else σ.2.1 j, σ.2.2)
def rowL (r : Nat) (f : Int → Int64) (σ : MS) : MS := (σ.1, σ.2.1, fun j => if j = r then f else σ.2.2 j)
theorem rowS_eq {r : Nat} {f : Int → Int} {σ : MS} : (rowS r f σ).2.1 r = f := if_pos rfl
theorem rowS_ne {r j : Nat} {f : Int → Int} {σ : MS} (h : j ≠ r) : (rowS r f σ).2.1 j = σ.2.1 j := if_neg h
def dfF (j : Nat) : Int := if j ∈ [0, 1, 5, 11, 12, 13, 14, 15, 16, 17, 18, 19, 20, 21, 23, 24, 25, 26, 33, 34, 35, 36, 37, 39, 40, 41, 48, 49, 52, 53, 54, 55, 59, 60, 61, 62, 63, 64, 69, 72, 73, 74, 75, 76, 77, 78, 79, 81, 82, 83, 88, 89, 90, 91, 92, 95, 98, 99, 100, 101, 102, 103, 106, 107, 108, 109, 110] then -1 else 0
def objS (x : Nat) (σ : MS) : MS := (σ.1, fun j => if j < 200 then (fun q => if q = (x : Int) then dfF j else σ.2.1 j q) else σ.2.1 j, σ.2.2)
theorem objS_eq {x j : Nat} {σ : MS} (h : j < 200) : (objS x σ).2.1 j x = dfF j := by
  show (if j < 200 then (fun q => if q = (x : Int) then dfF j else σ.2.1 j q) else σ.2.1 j) x = _
  rw [if_pos h]; exact if_pos rfl
theorem objS_ne {x j : Nat} {z : Int} {σ : MS} (h : z ≠ x) : (objS x σ).2.1 j z = σ.2.1 j z := by
  show (if j < 200 then (fun q => if q = (x : Int) then dfF j else σ.2.1 j q) else σ.2.1 j) z = _
  by_cases g : j < 200
  · rw [if_pos g]; exact if_neg h
  · rw [if_neg g]
theorem objS_hi {x j : Nat} {σ : MS} (h : 200 ≤ j) : (objS x σ).2.1 j = σ.2.1 j := if_neg (by omega)
theorem cL_same {b : Nat} {rs : List Bool} {σ τ : MS} {a : Nat} (h : ∀ j, b ≤ j → j < b + rs.length → σ.2.1 j a = τ.2.1 j a) : cL b rs σ a = cL b rs τ a := by
  induction rs generalizing b with
  | nil => rfl
  | cons r rs ih =>
    simp only [List.length_cons] at h
    simp only [cL]
    rw [h b (Nat.le_refl _) (by omega), ih (fun j h1 h2 => h j (by omega) (by omega))]
theorem cF_same {ci : Nat} {σ τ : MS} {a : Nat} (h : ∀ j, j < 200 → σ.2.1 j a = τ.2.1 j a) : cF ci σ a = cF ci τ a := cL_same (fun j _ h2 => h j (by have := cR_len ci; omega))
section NEW
variable {T : CT} {σ : MS} {P0 : PH} {x k n : Nat}
/-- two pictures that differ at x alone -/
theorem ovC_new {T2 : CT} {σ2 : MS} {e : pE} (hT : ∀ a, a ≠ x → T2 a = T a) (hf : ∀ j a, j < 200 → a ≠ x → σ2.2.1 j (a : Int) = σ.2.1 j a) (hr : ∀ a, a ≠ x → (T a).1 ≠ 0 → σ2.2.1 (1000 + a) = σ.2.1 (1000 + a)) (h9 : (∃ a, a ≠ x ∧ (T a).1 = 7) → σ2.2.1 900 = σ.2.1 900) (hl : ∀ a, a ≠ x → σ2.2.2 a = σ.2.2 a) (hx : ovC T2 σ2 P0 x = some e) : pS (ovC T σ P0) x e = ovC T2 σ2 P0 := by
  funext q
  by_cases hq : q = x
  · rw [hq, pS_same, hx]
  · rw [pS_ne hq]
    unfold ovC
    rw [hT q hq]
    by_cases c0 : (T q).1 = 0
    · rw [if_pos c0, if_pos c0]
    · rw [if_neg c0, if_neg c0, hr q hq c0, hl q hq, cF_same (ci := kC (T q).1) (fun j hj => (hf j q hj hq).symm)]
      by_cases c7 : (T q).1 = 7
      · rw [h9 ⟨q, hq, c7⟩]
      · simp only [if_neg c7]
theorem DOM.new {sz : Nat} (h : DOM T sz) : DOM (tT T sz k n) (sz + 1) := fun a ha => by
  by_cases e : a = sz
  · omega
  · rw [tT_ne e] at ha; have := h a ha; omega
theorem Gd.new {T2 : CT} {σ2 σ3 : MS} {sz sz2 m : Nat} (h0 : σ3.1 0 = σ.1 0 + n) (h1 : σ3.1 1 = σ.1 1 + 1) (h : Gd (tT T sz k x) σ3 (sz + 1) T2 σ2 sz2 m) : Gd T σ sz T2 σ2 sz2 (n + m) :=
  ⟨by have := h.1; omega, h.2.1, fun a q r => by
    have e : tT T sz k x a = T a := tT_ne (by omega)
    rw [h.2.2.1 a (by omega) (by rw [e]; exact r), e], by have := h.2.2.2.1; omega, by have := h.2.2.2.2; omega⟩
theorem dom0 {sz : Nat} (h : DOM T sz) : (T sz).1 = 0 := by
  by_cases e : (T sz).1 = 0
  · exact e
  · exact absurd (h sz e) (by omega)
end NEW
section TNA
variable {d : Nat} {M : MT} {pc : Nat} {T : CT} {σ : MS} {L : List (Nat × Value)} {st : List Value} {post : Option Value → CT → MS → Prop} {a : Nat}
theorem tn_newI {N k : Nat} {z : Int} (hd : decode M.2.1 pc = .ok (.newarray .int, 2)) (hw : Cond.arrayClass .int ∈ pWW) (hk : k = 1 ∨ (11 ≤ k ∧ k ≤ 24)) (hz : z = (N : Int)) (hb : N ≤ 1000000) (kk : ∀ x, (T x).1 = 0 → Tn d M (pc + 2) (tT T x k N) (rowS (1000 + x) (fun _ => 0) (gh N σ)) L (.ref x :: st) post) : Tn d M pc T σ L (.int (iI z) :: st) post := fun P0 sz hs => by
  obtain ⟨r, T2, σ2, sz2, n9, w, hp⟩ := kk sz (dom0 hs) P0 (sz + 1) hs.new
  refine ⟨r, T2, σ2, sz2, N + n9, wp_newa (atype := .int) (tc := 0) (a0 := (N, .inl (fun _ => 0))) (o := (r, ovC T2 σ2 P0, sz2, n9)) hd hw rfl (fun cA => rfl) (iI_n_lt (b := 0) ⟨by omega, by omega⟩ inR_0 (by omega)) (by rw [iI_nat (by omega) (by omega)]; omega) (by show N * 4 ≤ _; omega) hp.1.1 ?_, hp.1.new rfl rfl, hp.2⟩
  rw [ovC_new (T := T) (σ := σ) (T2 := tT T sz k N) (σ2 := rowS (1000 + sz) (fun _ => 0) (gh N σ)) (fun a h => tT_ne h) (fun j a hj h => by rw [rowS_ne (by omega)]; rfl) (fun a h h2 => by rw [rowS_ne (by omega)]; rfl) (fun _ => by rw [rowS_ne (by omega)]; rfl) (fun a h => rfl)]
  · exact w
  · have e : IA (tT T sz k N) sz := by unfold IA; rw [tT_eq]; exact hk
    rw [ovC_i e, tT_eq, rowS_eq]
    rfl
theorem tn_newB {N : Nat} {z : Int} (hd : decode M.2.1 pc = .ok (.newarray .byte, 2)) (hw : Cond.arrayClass .byte ∈ pWW) (hz : z = (N : Int)) (hb : N ≤ 1000000) (kk : ∀ x, (T x).1 = 0 → Tn d M (pc + 2) (tT T x 2 N) (rowS (1000 + x) (fun _ => 0) (gh N σ)) L (.ref x :: st) post) : Tn d M pc T σ L (.int (iI z) :: st) post := fun P0 sz hs => by
  obtain ⟨r, T2, σ2, sz2, n9, w, hp⟩ := kk sz (dom0 hs) P0 (sz + 1) hs.new
  refine ⟨r, T2, σ2, sz2, N + n9, wp_newa (atype := .byte) (tc := 1) (a0 := (N, .inl (fun _ => 0))) (o := (r, ovC T2 σ2 P0, sz2, n9)) hd hw rfl (fun cA => rfl) (iI_n_lt (b := 0) ⟨by omega, by omega⟩ inR_0 (by omega)) (by rw [iI_nat (by omega) (by omega)]; omega) (by show N * 1 ≤ _; omega) hp.1.1 ?_, hp.1.new rfl rfl, hp.2⟩
  rw [ovC_new (T := T) (σ := σ) (T2 := tT T sz 2 N) (σ2 := rowS (1000 + sz) (fun _ => 0) (gh N σ)) (fun a h => tT_ne h) (fun j a hj h => by rw [rowS_ne (by omega)]; rfl) (fun a h h2 => by rw [rowS_ne (by omega)]; rfl) (fun _ => by rw [rowS_ne (by omega)]; rfl) (fun a h => rfl)]
  · exact w
  · rw [ovC_b (by rw [tT_eq]), tT_eq, rowS_eq]
    rfl
theorem tn_newJ {N : Nat} {z : Int} (hd : decode M.2.1 pc = .ok (.newarray .long, 2)) (hw : Cond.arrayClass .long ∈ pWW) (hz : z = (N : Int)) (hb : N ≤ 1000000) (kk : ∀ x, (T x).1 = 0 → Tn d M (pc + 2) (tT T x 3 N) (rowL x (fun _ => 0) (gh N σ)) L (.ref x :: st) post) : Tn d M pc T σ L (.int (iI z) :: st) post := fun P0 sz hs => by
  obtain ⟨r, T2, σ2, sz2, n9, w, hp⟩ := kk sz (dom0 hs) P0 (sz + 1) hs.new
  refine ⟨r, T2, σ2, sz2, N + n9, wp_newa (atype := .long) (tc := 3) (a0 := (N, .inr (.inl (fun _ => 0)))) (o := (r, ovC T2 σ2 P0, sz2, n9)) hd hw rfl (fun cA => rfl) (iI_n_lt (b := 0) ⟨by omega, by omega⟩ inR_0 (by omega)) (by rw [iI_nat (by omega) (by omega)]; omega) (by show N * 8 ≤ _; omega) hp.1.1 ?_, hp.1.new rfl rfl, hp.2⟩
  rw [ovC_new (T := T) (σ := σ) (T2 := tT T sz 3 N) (σ2 := rowL sz (fun _ => 0) (gh N σ)) (fun a h => tT_ne h) (fun j a hj h => rfl) (fun a h h2 => rfl) (fun _ => rfl) (fun a h => if_neg h)]
  · exact w
  · rw [ovC_l (by rw [tT_eq]), tT_eq]
    show some (Sum.inl (3, N, Sum.inr (Sum.inl (fun j : Nat => (rowL sz (fun _ => 0) (gh N σ)).2.2 sz j)))) = _
    have e : (rowL sz (fun _ => 0) (gh N σ)).2.2 sz = fun _ => 0 := if_pos rfl
    rw [e]
/-- a raw object -/
theorem tn_newO {ci ix N : Nat} {C0 : String} {Tt : u_T} {fs : List Value} (ty : Nat → FieldType) (hty : ∀ k, k < N → parseFieldDescriptor (Tt k).2.2.1 = some (ty k)) (hd : decode M.2.1 pc = .ok (.new ix, 3)) (hq : vwCl[ci]? = some (C0, Tt, N)) (hlay : ∀ w ∈ u_ws C0 Tt N, w ∈ pWW) (h1 : Cond.classLink M.1.cls ix C0 ∈ pWW) (h2 : Cond.instantiable C0 N ∈ pWW) (h3 : Cond.initialized C0 ∈ pWW) (hfs : ∀ j, j < N → defaultValue (ty j) = vp_V fs j) (hfl : fs.length = N) (hc : ci < 12) (hfd : ∀ (τ : MS) (x : Nat), (∀ j, j < 200 → τ.2.1 j x = dfF j) → cF ci τ x = fs) (kk : ∀ x, (T x).1 = 0 → Tn d M (pc + 3) (tT T x (80 + ci) 0) (objS x (gh N σ)) L (.ref x :: st) post) : Tn d M pc T σ L st post := fun P0 sz hs => by
  obtain ⟨r, T2, σ2, sz2, n9, w, hp⟩ := kk sz (dom0 hs) P0 (sz + 1) hs.new
  refine ⟨r, T2, σ2, sz2, N + n9, wp_new (o := (r, ovC T2 σ2 P0, sz2, n9)) ty hty hd hq hlay h1 h2 h3 hfs hfl hp.1.1 ?_, hp.1.new rfl rfl, hp.2⟩
  rw [ovC_new (T := T) (σ := σ) (T2 := tT T sz (80 + ci) 0) (σ2 := objS sz (gh N σ)) (fun a h => tT_ne h) (fun j a hj h => by rw [objS_ne (by omega)]; rfl) (fun a h h2 => by rw [objS_hi (by omega)]; rfl) (fun _ => by rw [objS_hi (by omega)]; rfl) (fun a h => rfl)]
  · exact w
  · have e : kC (80 + ci) = ci := by unfold kC; rw [if_neg (by omega), if_neg (by omega), if_pos (by omega)]; omega
    rw [ovC_o (by rw [tT_eq]; show 30 ≤ 80 + ci ∧ 80 + ci < 94; omega), tT_eq, e, hfd _ _ (fun j hj => objS_eq hj)]
theorem tn_anQ {ix N k : Nat} {z : Int} (hk : k = 94 ∨ k = 95) (hd : decode M.2.1 pc = .ok (.anewarray ix, 3)) (hw : Cond.classLink M.1.cls ix "LineKeeper$Code" ∈ pWW) (hz : z = (N : Int)) (hb : N ≤ 1000) (kk : ∀ x, (T x).1 = 0 → Tn d M (pc + 3) (tT T x k N) (rowS (1000 + x) (fun _ => -1) (gh N σ)) L (.ref x :: st) post) : Tn d M pc T σ L (.int (iI z) :: st) post := fun P0 sz hs => by
  obtain ⟨r, T2, σ2, sz2, n9, w, hp⟩ := kk sz (dom0 hs) P0 (sz + 1) hs.new
  refine ⟨r, T2, σ2, sz2, N + n9, wp_anewQ (N := N) hd hw (iI_n_lt (b := 0) ⟨by omega, by omega⟩ inR_0 (by omega)) (by rw [iI_nat (by omega) (by omega)]; omega) hb hp.1.1 ?_, hp.1.new rfl rfl, hp.2⟩
  rw [ovC_new (T := T) (σ := σ) (T2 := tT T sz k N) (σ2 := rowS (1000 + sz) (fun _ => -1) (gh N σ)) (fun a h => tT_ne h) (fun j a hj h => by rw [rowS_ne (by omega)]; rfl) (fun a h h2 => by rw [rowS_ne (by omega)]; rfl) (fun _ => by rw [rowS_ne (by omega)]; rfl) (fun a h => rfl)]
  · exact w
  · rw [ovC_q (by rw [tT_eq]; show k = 4 ∨ k = 5 ∨ k = 94 ∨ k = 95; omega), tT_eq, rowS_eq]
    rfl
theorem tn_anM {ix N : Nat} {z : Int} (hT : ∀ a, (T a).1 ≠ 7) (hd : decode M.2.1 pc = .ok (.anewarray ix, 3)) (hw : Cond.classLink M.1.cls ix "[I" ∈ pWW) (hz : z = (N : Int)) (hb : N ≤ 1000) (kk : ∀ x, (T x).1 = 0 → Tn d M (pc + 3) (tT T x 7 N) (rowS 900 (fun _ => -1) (gh N σ)) L (.ref x :: st) post) : Tn d M pc T σ L (.int (iI z) :: st) post := fun P0 sz hs => by
  obtain ⟨r, T2, σ2, sz2, n9, w, hp⟩ := kk sz (dom0 hs) P0 (sz + 1) hs.new
  refine ⟨r, T2, σ2, sz2, N + n9, wp_anewM (N := N) hd hw (iI_n_lt (b := 0) ⟨by omega, by omega⟩ inR_0 (by omega)) (by rw [iI_nat (by omega) (by omega)]; omega) hb hp.1.1 ?_, hp.1.new rfl rfl, hp.2⟩
  rw [ovC_new (T := T) (σ := σ) (T2 := tT T sz 7 N) (σ2 := rowS 900 (fun _ => -1) (gh N σ)) (fun a h => tT_ne h) (fun j a hj h => by rw [rowS_ne (by omega)]; rfl) (fun a h h2 => by rw [rowS_ne (by omega)]; rfl) (fun q => absurd q.choose_spec.2 (hT _)) (fun a h => rfl)]
  · exact w
  · rw [ovC_m (by rw [tT_eq]), tT_eq, rowS_eq]
    rfl
/-- an object is told finished -/
theorem tn_tag {x k ci n : Nat} (hci : ci < 12) (hx : T x = (80 + ci, n)) (hk : 30 ≤ k ∧ k < 80 ∧ kC k = ci) (kk : Tn d M pc (tT T x k n) σ L st post) : Tn d M pc T σ L st post := fun P0 sz hs => by
  have hd2 : DOM (tT T x k n) sz := fun a ha => by
    by_cases e : a = x
    · rw [e]; exact hs x (by rw [hx]; show 80 + ci ≠ 0; omega)
    · rw [tT_ne e] at ha; exact hs a ha
  obtain ⟨r, T2, σ2, sz2, n9, w, g, hp⟩ := kk P0 sz hd2
  have e : ovC (tT T x k n) σ P0 = ovC T σ P0 := by
    funext q
    by_cases hq : q = x
    · have e1 : ovC (tT T x k n) σ P0 x = some (.inr (ci, cF ci σ x)) := by
        rw [ovC_o (by rw [tT_eq]; exact ⟨hk.1, by show k < 94; omega⟩), tT_eq]
        show some (Sum.inr (kC k, cF (kC k) σ x)) = _
        rw [hk.2.2]
      have e2 : ovC T σ P0 x = some (.inr (ci, cF ci σ x)) := by
        have e3 : kC (80 + ci) = ci := by unfold kC; rw [if_neg (by omega), if_neg (by omega), if_pos (by omega)]; omega
        rw [ovC_o (by rw [hx]; show 30 ≤ 80 + ci ∧ 80 + ci < 94; omega), hx]
        show some (Sum.inr (kC (80 + ci), cF (kC (80 + ci)) σ x)) = _
        rw [e3]
      rw [hq, e1, e2]
    · unfold ovC; rw [tT_ne hq]
  rw [e] at w
  refine ⟨r, T2, σ2, sz2, n9, w, ⟨g.1, g.2.1, fun a q r => ?_, g.2.2.2.1, g.2.2.2.2⟩, hp⟩
  have hne : a ≠ x := fun h => by rw [h, hx] at r; have : 80 + ci < 80 := r; omega
  have e4 : tT T x k n a = T a := tT_ne hne
  rw [g.2.2.1 a q (by rw [e4]; exact r), e4]
/-- references in rows -/
theorem tn_aaldN {z : Int} (hd : decode M.2.1 pc = .ok (.aaload, 1)) (ha : (T a).1 = 4 ∨ (T a).1 = 5) (h0 : 0 ≤ z) (h1 : z < ((T a).2 : Int)) (hn : (T a).2 ≤ 2147483647) (hv : σ.2.1 (1000 + a) z < 0) (kk : Tn d M (pc + 1) T σ L (.null :: st) post) : Tn d M pc T σ L (.int (iI z) :: .ref a :: st) post := fun P0 sz hs => by
  obtain ⟨r, T2, σ2, sz2, n9, w, hp⟩ := kk P0 sz hs
  refine ⟨r, T2, σ2, sz2, n9, wp_aald hd (ovC_q (by omega)) (iI_in h0 h1 hn) ?_, hp⟩
  rw [iI_nat h0 (by omega), show ((z.toNat : Nat) : Int) = z by omega]
  have e : va_rf (rfO (σ.2.1 (1000 + a) z)) = .null := vl_null hv
  rw [e]
  exact w
theorem tn_aaldM {z : Int} {x : Nat} (hd : decode M.2.1 pc = .ok (.aaload, 1)) (ha : (T a).1 = 7) (h0 : 0 ≤ z) (h1 : z < ((T a).2 : Int)) (hn : (T a).2 ≤ 2147483647) (hv : σ.2.1 900 z = (x : Int)) (kk : Tn d M (pc + 1) T σ L (.ref x :: st) post) : Tn d M pc T σ L (.int (iI z) :: .ref a :: st) post := fun P0 sz hs => by
  obtain ⟨r, T2, σ2, sz2, n9, w, hp⟩ := kk P0 sz hs
  refine ⟨r, T2, σ2, sz2, n9, wp_aaldM hd (ovC_m ha) (iI_in h0 h1 hn) ?_, hp⟩
  rw [iI_nat h0 (by omega), show ((z.toNat : Nat) : Int) = z by omega]
  have e : va_rf (rfO (σ.2.1 900 z)) = .ref x := vl_ref hv
  rw [e]
  exact w
theorem tn_aaldMN {z : Int} (hd : decode M.2.1 pc = .ok (.aaload, 1)) (ha : (T a).1 = 7) (h0 : 0 ≤ z) (h1 : z < ((T a).2 : Int)) (hn : (T a).2 ≤ 2147483647) (hv : σ.2.1 900 z < 0) (kk : Tn d M (pc + 1) T σ L (.null :: st) post) : Tn d M pc T σ L (.int (iI z) :: .ref a :: st) post := fun P0 sz hs => by
  obtain ⟨r, T2, σ2, sz2, n9, w, hp⟩ := kk P0 sz hs
  refine ⟨r, T2, σ2, sz2, n9, wp_aaldM hd (ovC_m ha) (iI_in h0 h1 hn) ?_, hp⟩
  rw [iI_nat h0 (by omega), show ((z.toNat : Nat) : Int) = z by omega]
  have e : va_rf (rfO (σ.2.1 900 z)) = .null := vl_null hv
  rw [e]
  exact w
theorem va_up_rf {f : Int → Int} {z : Int} {v : Nat} (hz : 0 ≤ z) : va_up (fun j : Nat => rfO (f j)) z.toNat (some v) = fun j : Nat => rfO ((fun q => if q = z then (v : Int) else f q) j) := by
  funext j
  unfold va_up
  by_cases hj : j = z.toNat
  · have h2 : (j : Int) = z := by omega
    rw [if_pos hj]
    show some v = rfO (if (j : Int) = z then (v : Int) else f j)
    rw [if_pos h2]
    unfold rfO
    rw [if_neg (by omega)]
    rfl
  · have h2 : ¬ (j : Int) = z := by omega
    rw [if_neg hj]
    show rfO (f j) = rfO (if (j : Int) = z then (v : Int) else f j)
    rw [if_neg h2]
theorem tn_aastQ {z : Int} {v : Nat} (hd : decode M.2.1 pc = .ok (.aastore, 1)) (ha : (T a).1 = 4 ∨ (T a).1 = 5 ∨ (T a).1 = 94 ∨ (T a).1 = 95) (hv : OBr T v 1) (h0 : 0 ≤ z) (h1 : z < ((T a).2 : Int)) (hn : (T a).2 ≤ 2147483647) (kk : Tn d M (pc + 1) T (sA (1000 + a) z v σ) L st post) : Tn d M pc T σ L (.ref v :: .int (iI z) :: .ref a :: st) post := fun P0 sz hs => by
  obtain ⟨r, T2, σ2, sz2, n9, w, hp⟩ := kk P0 sz hs
  have hv2 : ovC T σ P0 v = some (.inr (1, cF 1 σ v)) := by
    exact ovC_or hv
  refine ⟨r, T2, σ2, sz2, n9, wp_aastQ hd (ovC_q ha) hv2 (iI_in h0 h1 hn) ?_, hp⟩
  rw [iI_nat h0 (by omega), va_up_rf h0, ovC_new (T := T) (σ := σ) (T2 := T) (σ2 := sA (1000 + a) z v σ) (fun _ _ => rfl) (fun j b hj h => by rw [sA_k (by omega)]) (fun b h h2 => by rw [sA_k (by omega)]) (fun _ => by rw [sA_k (by omega)]) (fun _ _ => rfl)]
  · exact w
  · rw [ovC_q ha]
    simp only [sA, if_true]
theorem tn_aastM {z : Int} {v : Nat} (hu : ∀ b, (T b).1 = 7 → b = a) (hd : decode M.2.1 pc = .ok (.aastore, 1)) (ha : (T a).1 = 7) (hv : IA T v) (h0 : 0 ≤ z) (h1 : z < ((T a).2 : Int)) (hn : (T a).2 ≤ 2147483647) (kk : Tn d M (pc + 1) T (sA 900 z v σ) L st post) : Tn d M pc T σ L (.ref v :: .int (iI z) :: .ref a :: st) post := fun P0 sz hs => by
  obtain ⟨r, T2, σ2, sz2, n9, w, hp⟩ := kk P0 sz hs
  refine ⟨r, T2, σ2, sz2, n9, wp_aastM (t := 0) hd (ovC_m ha) (ovC_i hv) (iI_in h0 h1 hn) ?_, hp⟩
  rw [iI_nat h0 (by omega), va_up_rf h0, ovC_new (T := T) (σ := σ) (T2 := T) (σ2 := sA 900 z v σ) (fun _ _ => rfl) (fun j b hj h => by rw [sA_k (by omega)]) (fun b h h2 => by rw [sA_k (by omega)]) (fun q => absurd (hu _ q.choose_spec.2) q.choose_spec.1) (fun _ _ => rfl)]
  · exact w
  · rw [ovC_m ha]
    simp only [sA, if_true]
/-- a part of an array is copied -/
def cpZ (f g : Int → Int) (sp dp n : Int) : Int → Int := fun i => if dp ≤ i ∧ i < dp + n then f (sp + (i - dp)) else g i
theorem va_cpy_i {f g : Int → Int} {sp dp n : Int} (h1 : 0 ≤ sp) (h2 : 0 ≤ dp) (h3 : 0 ≤ n) : va_cpy (fun j : Nat => iI (f j)) (fun j : Nat => iI (g j)) sp.toNat dp.toNat n.toNat = fun j : Nat => iI (cpZ f g sp dp n j) := by
  funext j
  unfold va_cpy cpZ
  by_cases h : dp.toNat ≤ j ∧ j < dp.toNat + n.toNat
  · rw [if_pos h, if_pos (by omega)]
    have e : ((sp.toNat + (j - dp.toNat) : Nat) : Int) = sp + ((j : Int) - dp) := by omega
    show iI (f ((sp.toNat + (j - dp.toNat) : Nat) : Int)) = _
    rw [e]
  · rw [if_neg h, if_neg (by omega)]
theorem tn_acopyI {ix b : Nat} {sp dp n : Int} (hd : decode M.2.1 pc = .ok (.invokestatic ix, 3)) (hw : Cond.methodLink M.1.cls ix arraycopyName ∈ pWW) (hw2 : Cond.native arraycopyName ∈ pWW) (hw3 : Cond.static arraycopyName ∈ pWW) (hw4 : Cond.initialized "java/lang/System" ∈ pWW) (ha : IA T a) (hb : IA T b) (hl : (T a).2 ≤ 1000000 ∧ (T b).2 ≤ 1000000) (h1 : 0 ≤ sp) (h2 : 0 ≤ dp) (h3 : 0 ≤ n) (h4 : sp + n ≤ ((T a).2 : Int)) (h5 : dp + n ≤ ((T b).2 : Int)) (hd1 : 0 < d) (hcat : (st.map fun v => v.category).sum ≤ 8) (kk : Tn d M (pc + 3) T (rowS (1000 + b) (cpZ (σ.2.1 (1000 + a)) (σ.2.1 (1000 + b)) sp dp n) σ) L st post) : Tn d M pc T σ L (.int (iI n) :: .int (iI dp) :: .ref b :: .int (iI sp) :: .ref a :: st) post := fun P0 sz hs => by
  obtain ⟨r, T2, σ2, sz2, n9, w, hp⟩ := kk P0 sz hs
  refine ⟨r, T2, σ2, sz2, n9, wp_acopyI hd hw hw2 hw3 hw4 (ovC_i ha) (ovC_i hb) (iI_n_lt (b := 0) ⟨by omega, by omega⟩ inR_0 (by omega)) (iI_n_lt (b := 0) ⟨by omega, by omega⟩ inR_0 (by omega)) (iI_n_lt (b := 0) ⟨by omega, by omega⟩ inR_0 (by omega)) (by rw [iI_toInt ⟨by omega, by omega⟩, iI_toInt ⟨by omega, by omega⟩]; exact h4) (by rw [iI_toInt ⟨by omega, by omega⟩, iI_toInt ⟨by omega, by omega⟩]; exact h5) hd1 hcat ?_, hp⟩
  rw [iI_nat h1 (by omega), iI_nat h2 (by omega), iI_nat h3 (by omega), va_cpy_i h1 h2 h3, ovC_new (T := T) (σ := σ) (T2 := T) (σ2 := rowS (1000 + b) (cpZ (σ.2.1 (1000 + a)) (σ.2.1 (1000 + b)) sp dp n) σ) (fun _ _ => rfl) (fun j c hj h => by rw [rowS_ne (by omega)]) (fun c h h2 => by rw [rowS_ne (by omega)]) (fun _ => by rw [rowS_ne (by omega)]) (fun _ _ => rfl)]
  · exact w
  · rw [ovC_i hb, rowS_eq]
theorem tn_acopyL {ix b : Nat} {sp dp n : Int} (hd : decode M.2.1 pc = .ok (.invokestatic ix, 3)) (hw : Cond.methodLink M.1.cls ix arraycopyName ∈ pWW) (hw2 : Cond.native arraycopyName ∈ pWW) (hw3 : Cond.static arraycopyName ∈ pWW) (hw4 : Cond.initialized "java/lang/System" ∈ pWW) (ha : (T a).1 = 3) (hb : (T b).1 = 3) (hl : (T a).2 ≤ 1000000 ∧ (T b).2 ≤ 1000000) (h1 : 0 ≤ sp) (h2 : 0 ≤ dp) (h3 : 0 ≤ n) (h4 : sp + n ≤ ((T a).2 : Int)) (h5 : dp + n ≤ ((T b).2 : Int)) (hd1 : 0 < d) (hcat : (st.map fun v => v.category).sum ≤ 8) (kk : ∀ f, Tn d M (pc + 3) T (rowL b f σ) L st post) : Tn d M pc T σ L (.int (iI n) :: .int (iI dp) :: .ref b :: .int (iI sp) :: .ref a :: st) post := fun P0 sz hs => by
  obtain ⟨r, T2, σ2, sz2, n9, w, hp⟩ := kk (fun z => va_cpy (fun j : Nat => σ.2.2 a j) (fun j : Nat => σ.2.2 b j) sp.toNat dp.toNat n.toNat z.toNat) P0 sz hs
  refine ⟨r, T2, σ2, sz2, n9, wp_acopyL hd hw hw2 hw3 hw4 (ovC_l ha) (ovC_l hb) (iI_n_lt (b := 0) ⟨by omega, by omega⟩ inR_0 (by omega)) (iI_n_lt (b := 0) ⟨by omega, by omega⟩ inR_0 (by omega)) (iI_n_lt (b := 0) ⟨by omega, by omega⟩ inR_0 (by omega)) (by rw [iI_toInt ⟨by omega, by omega⟩, iI_toInt ⟨by omega, by omega⟩]; exact h4) (by rw [iI_toInt ⟨by omega, by omega⟩, iI_toInt ⟨by omega, by omega⟩]; exact h5) hd1 hcat ?_, hp⟩
  rw [iI_nat h1 (by omega), iI_nat h2 (by omega), iI_nat h3 (by omega), ovC_new (T := T) (σ := σ) (T2 := T) (σ2 := rowL b (fun z => va_cpy (fun j : Nat => σ.2.2 a j) (fun j : Nat => σ.2.2 b j) sp.toNat dp.toNat n.toNat z.toNat) σ) (fun _ _ => rfl) (fun j c hj h => rfl) (fun c h h2 => rfl) (fun _ => rfl) (fun c h => if_neg h)]
  · exact w
  · rw [ovC_l hb]
    have e : (rowL b (fun z => va_cpy (fun j : Nat => σ.2.2 a j) (fun j : Nat => σ.2.2 b j) sp.toNat dp.toNat n.toNat z.toNat) σ).2.2 b = (fun z => va_cpy (fun j : Nat => σ.2.2 a j) (fun j : Nat => σ.2.2 b j) sp.toNat dp.toNat n.toNat z.toNat) := if_pos rfl
    rw [e]
    rfl
/-- the class's tables -/
theorem tn_stLen {Cn Fn De : String} {ty : FieldType} {N ix : Nat} {tb : List Int32} (hT : pSt Cn Fn De ty N tb) (h1 : decode M.2.1 pc = .ok (.getstatic ix, 3)) (hw : Cond.fieldLink M.1.cls ix Cn Fn De ∈ pWW) (h2 : decode M.2.1 (pc + 3) = .ok (.arraylength, 1)) (kk : Tn d M (pc + 4) T σ L (.int (iI (N : Int)) :: st) post) : Tn d M pc T σ L st post := fun P0 sz hs => by
  obtain ⟨r, T2, σ2, sz2, n9, w, hp⟩ := kk P0 sz hs
  refine ⟨r, T2, σ2, sz2, n9, wp_stLen hT h1 hw h2 ?_, hp⟩
  have e : iI (N : Int) = Int32.ofNat N := Int32.ofInt_eq_ofNat
  rw [e] at w
  exact w
theorem tn_stInt {Cn Fn De : String} {N ix i q ln : Nat} {z : Int} {tb : List Int32} (hT : pSt Cn Fn De .int N tb) (h1 : decode M.2.1 pc = .ok (.getstatic ix, 3)) (hw : Cond.fieldLink M.1.cls ix Cn Fn De ∈ pWW) (h2 : (∃ kf : Fin 4, (kf : Nat) = i ∧ ln = 1 ∧ decode M.2.1 (pc + 3) = .ok (.iload_n kf, 1)) ∨ (ln = 2 ∧ decode M.2.1 (pc + 3) = .ok (.iload i, 2))) (hq : L[q]? = some (i, .int (iI z))) (h3 : decode M.2.1 (pc + 3 + ln) = .ok (.iaload, 1)) (h0 : 0 ≤ z) (h9 : z < (N : Int)) (hN : N ≤ 100) (kk : ∀ v : Int, (inR v ∧ ∃ j : Nat, j < N ∧ iI v = tb.getD j 0) → Tn d M (pc + 3 + ln + 1) T σ L (.int (iI v) :: st) post) : Tn d M pc T σ L st post := fun P0 sz hs => by
  obtain ⟨r, T2, σ2, sz2, n9, w, hp⟩ := kk (tb.getD z.toNat 0).toInt ⟨inR_toInt _, z.toNat, by omega, iI_self _⟩ P0 sz hs
  refine ⟨r, T2, σ2, sz2, n9, wp_stInt hT h1 hw h2 hq h3 (iI_in h0 h9 (by omega)) (v := tb.getD z.toNat 0) (by rw [iI_nat h0 (by omega)]) ?_, hp⟩
  rw [iI_self] at w
  exact w
theorem tn_stChr {Cn Fn De : String} {N ix i q : Nat} {z : Int} {tb : List Int32} {kf : Fin 4} (hT : pSt Cn Fn De .char N tb) (h1 : decode M.2.1 pc = .ok (.getstatic ix, 3)) (hw : Cond.fieldLink M.1.cls ix Cn Fn De ∈ pWW) (h2 : decode M.2.1 (pc + 3) = .ok (.iload_n kf, 1)) (hk : (kf : Nat) = i) (hq : L[q]? = some (i, .int (iI z))) (h3 : decode M.2.1 (pc + 4) = .ok (.caload, 1)) (h0 : 0 ≤ z) (h9 : z < (N : Int)) (hN : N ≤ 100) (kk : ∀ v : Int, inR v → Tn d M (pc + 5) T σ L (.int (iI v) :: st) post) : Tn d M pc T σ L st post := fun P0 sz hs => by
  obtain ⟨r, T2, σ2, sz2, n9, w, hp⟩ := kk (tb.getD z.toNat 0).toInt (inR_toInt _) P0 sz hs
  refine ⟨r, T2, σ2, sz2, n9, wp_stChr hT h1 hw h2 hk hq h3 (iI_in h0 h9 (by omega)) (v := tb.getD z.toNat 0) (by rw [iI_nat h0 (by omega)]) ?_, hp⟩
  rw [iI_self] at w
  exact w
theorem tn_stIntX {Cn Fn De : String} {N ix i q ln : Nat} {z : Int} {tb : List Int32} (hT : pSt Cn Fn De .int N tb) (h1 : decode M.2.1 pc = .ok (.getstatic ix, 3)) (hw : Cond.fieldLink M.1.cls ix Cn Fn De ∈ pWW) (h2 : (∃ kf : Fin 4, (kf : Nat) = i ∧ ln = 1 ∧ decode M.2.1 (pc + 3) = .ok (.iload_n kf, 1)) ∨ (ln = 2 ∧ decode M.2.1 (pc + 3) = .ok (.iload i, 2))) (hq : L[q]? = some (i, .int (iI z))) (h3 : decode M.2.1 (pc + 3 + ln) = .ok (.iaload, 1)) (h0 : 0 ≤ z) (h9 : z < (N : Int)) (hN : N ≤ 100) (kk : ∀ v : Int, (inR v ∧ iI v = tb.getD z.toNat 0) → Tn d M (pc + 3 + ln + 1) T σ L (.int (iI v) :: st) post) : Tn d M pc T σ L st post := fun P0 sz hs => by
  obtain ⟨r, T2, σ2, sz2, n9, w, hp⟩ := kk (tb.getD z.toNat 0).toInt ⟨inR_toInt _, iI_self _⟩ P0 sz hs
  refine ⟨r, T2, σ2, sz2, n9, wp_stInt hT h1 hw h2 hq h3 (iI_in h0 h9 (by omega)) (v := tb.getD z.toNat 0) (by rw [iI_nat h0 (by omega)]) ?_, hp⟩
  rw [iI_self] at w
  exact w
theorem tn_stChrX {Cn Fn De : String} {N ix i q : Nat} {z : Int} {tb : List Int32} {kf : Fin 4} (hT : pSt Cn Fn De .char N tb) (h1 : decode M.2.1 pc = .ok (.getstatic ix, 3)) (hw : Cond.fieldLink M.1.cls ix Cn Fn De ∈ pWW) (h2 : decode M.2.1 (pc + 3) = .ok (.iload_n kf, 1)) (hk : (kf : Nat) = i) (hq : L[q]? = some (i, .int (iI z))) (h3 : decode M.2.1 (pc + 4) = .ok (.caload, 1)) (h0 : 0 ≤ z) (h9 : z < (N : Int)) (hN : N ≤ 100) (kk : ∀ v : Int, (inR v ∧ iI v = tb.getD z.toNat 0) → Tn d M (pc + 5) T σ L (.int (iI v) :: st) post) : Tn d M pc T σ L st post := fun P0 sz hs => by
  obtain ⟨r, T2, σ2, sz2, n9, w, hp⟩ := kk (tb.getD z.toNat 0).toInt ⟨inR_toInt _, iI_self _⟩ P0 sz hs
  refine ⟨r, T2, σ2, sz2, n9, wp_stChr hT h1 hw h2 hk hq h3 (iI_in h0 h9 (by omega)) (v := tb.getD z.toNat 0) (by rw [iI_nat h0 (by omega)]) ?_, hp⟩
  rw [iI_self] at w
  exact w
/-- calls of constructors -/
theorem tn_callI {M' : MT} {ix : Nat} {L1 : List (Nat × Value)} {rest As : List Value} {post1 : Option Value → CT → MS → Prop} (hd : decode M.2.1 pc = .ok (.invokespecial ix, 3)) (hM : pOk M') (hret : M'.2.2.2 = none) (hnm : M'.1.name = "<init>") (hin : Cond.instanceMethod M'.1 ∈ pWW) (hlink : Cond.methodLink M.1.cls ix M'.1 ∈ pWW) (hnp : (parseMethodDescriptor M'.1.desc).map (fun d => d.parameters.length) = some As.length) (hL : lv_args 0 (.ref a :: As) = L1) (hlen : (lg_sl (.ref a :: As)).length ≤ M'.2.2.1) (hcat : (rest.map fun v => v.category).sum ≤ 8) {st : List Value} (hst0 : st = As.reverse ++ .ref a :: rest) (h1 : Tn d M' 0 T σ L1 [] post1) (h2 : ∀ r T1 σ1, GT T T1 → post1 r T1 σ1 → Tn (d + 1) M (pc + 3) T1 σ1 L (r.toList ++ rest) post) : Tn (d + 1) M pc T σ L st post := fun P0 sz hs => by
  obtain ⟨r1, T1, σ1, s1, n1, w1, g1, p1⟩ := h1 P0 sz hs
  obtain ⟨r2, T2, σ2, s2, n2, w2, g2, p2⟩ := h2 r1 T1 σ1 (g1.gt hs) p1 P0 s1 g1.2.1
  exact ⟨r2, T2, σ2, s2, n1 + n2, wp_callI (o1 := (r1, ovC T1 σ1 P0, s1, n1)) (o2 := (r2, ovC T2 σ2 P0, s2, n2)) hd hM hret hnm hin hlink hnp hL hlen hcat g1.1 g2.1 hst0 w1 w2, g1.trans g2, p2⟩
theorem tn_callIN {M' : MT} {ix : Nat} {host : String} {L1 : List (Nat × Value)} {rest As : List Value} {post1 : Option Value → CT → MS → Prop} (hd : decode M.2.1 pc = .ok (.invokespecial ix, 3)) (hM : pOk M') (hret : M'.2.2.2 = none) (hnm : M'.1.name = "<init>") (hin : Cond.instanceMethod M'.1 ∈ pWW) (hlink : (M.1.cls, ix, M'.1, host) ∈ nst_M) (hnp : (parseMethodDescriptor M'.1.desc).map (fun d => d.parameters.length) = some As.length) (hL : lv_args 0 (.ref a :: As) = L1) (hlen : (lg_sl (.ref a :: As)).length ≤ M'.2.2.1) (hcat : (rest.map fun v => v.category).sum ≤ 8) {st : List Value} (hst0 : st = As.reverse ++ .ref a :: rest) (h1 : Tn d M' 0 T σ L1 [] post1) (h2 : ∀ r T1 σ1, GT T T1 → post1 r T1 σ1 → Tn (d + 1) M (pc + 3) T1 σ1 L (r.toList ++ rest) post) : Tn (d + 1) M pc T σ L st post := fun P0 sz hs => by
  obtain ⟨r1, T1, σ1, s1, n1, w1, g1, p1⟩ := h1 P0 sz hs
  obtain ⟨r2, T2, σ2, s2, n2, w2, g2, p2⟩ := h2 r1 T1 σ1 (g1.gt hs) p1 P0 s1 g1.2.1
  exact ⟨r2, T2, σ2, s2, n1 + n2, wp_callIN (o1 := (r1, ovC T1 σ1 P0, s1, n1)) (o2 := (r2, ovC T2 σ2 P0, s2, n2)) hd hM hret hnm hin hlink hnp hL hlen hcat g1.1 g2.1 hst0 w1 w2, g1.trans g2, p2⟩
end TNA

