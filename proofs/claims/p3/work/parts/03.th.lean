/-! A TYPED HEAP: an address has a kind (a class's number in vwCl; 20 bytes, 21 ints, 22 longs, 24 Codes, 25 rows of ints) and a length; every field and element is of its type -/
abbrev TS : Type := Nat → Option (Nat × Nat)
abbrev TF : Type := Nat × Nat × Int × Int
def th_r (σ : TS) (k : Nat) (lo hi : Int) (a : Nat) : Prop := ∃ n : Nat, σ a = some (k, n) ∧ lo ≤ (n : Int) ∧ (n : Int) ≤ hi
/-- (0, _, lo, hi): an int between; (1, ..): a long; (2, k, lo, hi): an address of kind k, its length between; (3, ..): that, or null -/
def th_v (σ : TS) (t : TF) (v : Value) : Prop :=
  (t.1 = 0 → ∃ x : Int32, v = .int x ∧ t.2.2.1 ≤ x.toInt ∧ x.toInt ≤ t.2.2.2) ∧
  (t.1 = 1 → ∃ x : Int64, v = .long x) ∧
  (t.1 = 2 → ∃ a : Nat, v = .ref a ∧ th_r σ t.2.1 t.2.2.1 t.2.2.2 a) ∧
  (t.1 = 3 → v = .null ∨ ∃ a : Nat, v = .ref a ∧ th_r σ t.2.1 t.2.2.1 t.2.2.2 a)
theorem th_v0 {σ : TS} {k : Nat} {lo hi : Int} {v : Value} (h : th_v σ (0, k, lo, hi) v) : ∃ x : Int32, v = .int x ∧ lo ≤ x.toInt ∧ x.toInt ≤ hi := h.1 rfl
theorem th_v1 {σ : TS} {k : Nat} {lo hi : Int} {v : Value} (h : th_v σ (1, k, lo, hi) v) : ∃ x : Int64, v = .long x := h.2.1 rfl
theorem th_v2 {σ : TS} {k : Nat} {lo hi : Int} {v : Value} (h : th_v σ (2, k, lo, hi) v) : ∃ a : Nat, v = .ref a ∧ th_r σ k lo hi a := h.2.2.1 rfl
theorem th_v3 {σ : TS} {k : Nat} {lo hi : Int} {v : Value} (h : th_v σ (3, k, lo, hi) v) : v = .null ∨ ∃ a : Nat, v = .ref a ∧ th_r σ k lo hi a := h.2.2.2 rfl
theorem th_i {σ : TS} {k : Nat} {lo hi : Int} (x : Int32) (h1 : lo ≤ x.toInt) (h2 : x.toInt ≤ hi) : th_v σ (0, k, lo, hi) (.int x) := ⟨fun _ => ⟨x, rfl, h1, h2⟩, fun h => absurd h (by simp), fun h => absurd h (by simp), fun h => absurd h (by simp)⟩
theorem th_l {σ : TS} {k : Nat} {lo hi : Int} (x : Int64) : th_v σ (1, k, lo, hi) (.long x) := ⟨fun h => absurd h (by simp), fun _ => ⟨x, rfl⟩, fun h => absurd h (by simp), fun h => absurd h (by simp)⟩
theorem th_a {σ : TS} {k : Nat} {lo hi : Int} {a : Nat} (h : th_r σ k lo hi a) : th_v σ (2, k, lo, hi) (.ref a) := ⟨fun h => absurd h (by simp), fun h => absurd h (by simp), fun _ => ⟨a, rfl, h⟩, fun h => absurd h (by simp)⟩
theorem th_q {σ : TS} {k : Nat} {lo hi : Int} {a : Nat} (h : th_r σ k lo hi a) : th_v σ (3, k, lo, hi) (.ref a) := ⟨fun h => absurd h (by simp), fun h => absurd h (by simp), fun h => absurd h (by simp), fun _ => Or.inr ⟨a, rfl, h⟩⟩
theorem th_n {σ : TS} {k : Nat} {lo hi : Int} : th_v σ (3, k, lo, hi) .null := ⟨fun h => absurd h (by simp), fun h => absurd h (by simp), fun h => absurd h (by simp), fun _ => Or.inl rfl⟩
theorem th_r.mono {σ σ' : TS} {k : Nat} {lo hi : Int} {a : Nat} (hs : ∀ q t, σ q = some t → σ' q = some t) (h : th_r σ k lo hi a) : th_r σ' k lo hi a := by
  obtain ⟨n, h1, h2, h3⟩ := h
  exact ⟨n, hs _ _ h1, h2, h3⟩
theorem th_v.mono {σ σ' : TS} {t : TF} {v : Value} (hs : ∀ q t, σ q = some t → σ' q = some t) (h : th_v σ t v) : th_v σ' t v :=
  ⟨h.1, h.2.1, fun e => by obtain ⟨a, h1, h2⟩ := h.2.2.1 e; exact ⟨a, h1, h2.mono hs⟩, fun e => by
    rcases h.2.2.2 e with h1 | ⟨a, h1, h2⟩
    · exact Or.inl h1
    · exact Or.inr ⟨a, h1, h2.mono hs⟩⟩
/-- what a cell of a kind is -/
def th_c (D : va_G) (cl : List vw_C) (cy : Nat → ClassId) (F : Nat → Nat → TF) (σ : TS) (a k n : Nat) (H : Heap) : Prop :=
  (k < 20 → ∃ (r : vw_C) (fs : List Value), cl[k]? = some r ∧ va_at D cl (a, .inr (k, fs)) H ∧ fs.length = r.2.2 ∧ ∀ j, j < r.2.2 → th_v σ (F k j) (vp_V fs j)) ∧
  (k = 20 ∨ k = 21 → ∃ f : Nat → Int32, va_at D cl (a, .inl (cy k, n, .inl f)) H) ∧
  (k = 22 → ∃ f : Nat → Int64, va_at D cl (a, .inl (cy k, n, .inr (.inl f))) H) ∧
  (k = 24 → ∃ f : Nat → Option Nat, va_at D cl (a, .inl (cy k, n, .inr (.inr (.inr (.inr f))))) H ∧ ∀ i, i < n → ∃ b, f i = some b ∧ th_r σ 1 0 0 b) ∧
  (k = 25 → ∃ f : Nat → Option Nat, va_at D cl (a, .inl (cy k, n, .inr (.inr (.inr (.inr f))))) H ∧ ∀ i, i < n → f i = none ∨ ∃ b, f i = some b ∧ th_r σ 21 0 1000000 b)
def TH (D : va_G) (cl : List vw_C) (cy : Nat → ClassId) (F : Nat → Nat → TF) (σ : TS) (H : Heap) : Prop := ∀ a k n, σ a = some (k, n) → th_c D cl cy F σ a k n H
theorem th_c.kept {D : va_G} {cl : List vw_C} {cy : Nat → ClassId} {F : Nat → Nat → TF} {σ : TS} {a k n : Nat} {H H1 : Heap} (h : th_c D cl cy F σ a k n H) (hq : H1[a]? = H[a]?) : th_c D cl cy F σ a k n H1 := by
  obtain ⟨h1, h2, h3, h4, h5⟩ := h
  refine ⟨fun e => ?_, fun e => ?_, fun e => ?_, fun e => ?_, fun e => ?_⟩
  · obtain ⟨r, fs, e1, e2, e3⟩ := h1 e
    exact ⟨r, fs, e1, e2.kept hq, e3⟩
  · obtain ⟨f, e2⟩ := h2 e
    exact ⟨f, e2.kept hq⟩
  · obtain ⟨f, e2⟩ := h3 e
    exact ⟨f, e2.kept hq⟩
  · obtain ⟨f, e2, e3⟩ := h4 e
    exact ⟨f, e2.kept hq, e3⟩
  · obtain ⟨f, e2, e3⟩ := h5 e
    exact ⟨f, e2.kept hq, e3⟩
/-- one cell is written; the others stay -/
theorem TH.put {D : va_G} {cl : List vw_C} {cy : Nat → ClassId} {F : Nat → Nat → TF} {σ : TS} {H H1 : Heap} {a k n : Nat} (h : TH D cl cy F σ H) (ha : σ a = some (k, n)) (hc : th_c D cl cy F σ a k n H1) (oq : ∀ q : Nat, q ≠ a → H1[q]? = H[q]?) : TH D cl cy F σ H1 := by
  intro b k2 n2 hb
  by_cases e : b = a
  · subst e
    rw [ha] at hb
    cases hb
    exact hc
  · exact (h b k2 n2 hb).kept (oq b e)
section THW
variable {p : Program} {l : Launch} {e : Env} {R : Room} {s : State} {m : MethodId} {args : Array Value} {below : List Frame} {meth : Method} {c : Code} {H : Heap} {locs : List Loc} {cells slots : Nat} {Q : State → Prop}
variable {cc : ByteArray} {pc : Nat} {ls : Array Slot} {rest : List Value} {D : va_G} {cl : List vw_C} {A : Nat → Prop} {a : Nat} {tys : List (ClassId × FieldType)} {H0 : Heap} {cy : Nat → ClassId} {F : Nat → Nat → TF} {σ : TS}
theorem th_get (hexec : p.tables.exec = Jvm.exec) (hb : c.code = cc) {own ref C : String} {T : u_T} {N ci n index : Nat} {Ts : List Cond} (hts : ∀ w ∈ Ts, w.before args s = true) (hin : ∀ w ∈ u_ws C T N, w ∈ Ts) (hown : s.vm.findClass own = some m.cls) (hK : va_K D cl tys s) (hT : TH D cl cy F σ H) (ha : σ a = some (ci, n)) (hci : ci < 20) (hc : cl[ci]? = some (C, T, N)) (k : Nat) (hk : k < N) (hlink : (Cond.fieldLink own index ref (T k).2.1 (T k).2.2.1).before args s = true) (hsame : ∀ x, s.fieldFound? (T k).1 (T k).2.1 (T k).2.2.1 = some x → s.fieldFound? ref (T k).2.1 (T k).2.2.1 = some x) {t : TF} (ht : F ci k = t) (hdg : decode cc pc = .ok (.getfield index, 3))
    (kk : ∀ v : Value, th_v σ t v → W p l e R s m args below meth c H locs cells slots Q (F0 m (pc + 3) ls (v :: rest))) : W p l e R s m args below meth c H locs cells slots Q (F0 m pc ls (.ref a :: rest)) := by
  obtain ⟨r, fs, e1, e2, e3, e4⟩ := (hT a ci n ha).1 hci
  have hr : r = (C, T, N) := Option.some.inj (e1.symm.trans hc)
  subst hr
  have hP : va_P D cl [(a, .inr (ci, fs))] H := fun k q h => by
    match k, h with
    | 0, h => cases h; exact e2
    | k + 1, h => simp at h
  have hv : fs[k]? = some (vp_V fs k) := by
    have hlt : k < fs.length := by rw [e3]; exact hk
    simp [vp_V, List.getElem?_eq_getElem hlt, List.getD_eq_getElem?_getD]
  exact va_get hexec hb hts hin hown hK hP 0 rfl hc k hk hlink hsame hv hdg (kk _ (by rw [← ht]; exact e4 k hk))
theorem th_put (hexec : p.tables.exec = Jvm.exec) (hb : c.code = cc) {own ref C : String} {T : u_T} {N ci n index : Nat} {Ts : List Cond} (hts : ∀ w ∈ Ts, w.before args s = true) (hin : ∀ w ∈ u_ws C T N, w ∈ Ts) (ty0 : Nat → FieldType) (hty : ∀ k, k < N → parseFieldDescriptor (T k).2.2.1 = some (ty0 k)) (hnm : ∀ a, a < N → ∀ b, b < N → a ≠ b → (T a).2.1 ≠ (T b).2.1) (hown : s.vm.findClass own = some m.cls) (hK : va_K D cl tys s) (hT : TH D cl cy F σ H) (hS : va_S A H0 H locs) (ha : σ a = some (ci, n)) (hA : A a) (hci : ci < 20) (hc : cl[ci]? = some (C, T, N)) (k : Nat) (hk : k < N) (hlink : (Cond.fieldLink own index ref (T k).2.1 (T k).2.2.1).before args s = true) (hsame : ∀ x, s.fieldFound? (T k).1 (T k).2.1 (T k).2.2.1 = some x → s.fieldFound? ref (T k).2.1 (T k).2.2.1 = some x) (hfin : (T k).2.2.2 = false) {ty : FieldType} {v : Value} (hd : parseFieldDescriptor (T k).2.2.1 = some ty) (hn : narrow ty v = v) (hfit : fits ty v = true) (hv : th_v σ (F ci k) v)
    (hdg : decode cc pc = .ok (.putfield index, 3)) (kk : ∀ (H1 : Heap) (locs1 : List Loc), TH D cl cy F σ H1 → H1.size = H.size → va_S A H0 H1 locs1 → W p l e R s m args below meth c H1 locs1 cells slots Q (F0 m (pc + 3) ls rest)) : W p l e R s m args below meth c H locs cells slots Q (F0 m pc ls (v :: .ref a :: rest)) := by
  have hap := va_apart (own := own) hts hin ty0 hty hnm hK hc
  obtain ⟨r, fs, e1, e2, e5, e4⟩ := (hT a ci n ha).1 hci
  have hr : r = (C, T, N) := Option.some.inj (e1.symm.trans hc)
  subst hr
  obtain ⟨r2, h1, cell, q1, q2, q3, q4⟩ := e2
  have hr2 : r2 = (C, T, N) := Option.some.inj (h1.symm.trans hc)
  subst hr2
  obtain ⟨hSl, hfc, kC, hkC, hkind⟩ := hK.1 ci _ hc
  obtain ⟨cf, kf, fi, f, hi, hsl⟩ := hSl k hk
  have hlay := hts _ (hin _ (u_in_lay hk))
  unfold u_lay at hlay
  rw [if_neg (by rw [hfin]; decide)] at hlay
  have hst := (u_facts hfc hkC (u_lays hts hin hk) hi).1
  have h6 := u_store hfc hkC hkind hlay hi hd hn hfit
  have hl : k < fs.length := by rw [e5]; exact hk
  refine W.putK hexec hb (f := f) ⟨hown, hlink, ⟨_, _, _, hsame _ hi⟩, hst⟩ (by rw [q2]; exact h6) q1 q3 (by rw [hsl]; exact k2_hasslot (q4 k hk)) rfl rfl hdg fun H' d1 d2 d3 => ?_
  rw [hsl] at d1 ⊢
  refine kk H' _ (hT.put ha ⟨fun _ => ⟨(C, T, N), fs.set k v, hc, ⟨_, hc, t_OB.to (V := updV (vp_V fs) k v) ⟨_, d1, q2, q3, t_set q4 hap hk v⟩ (fun j _ => vp_updV_set hl v j)⟩, by rw [List.length_set]; exact e5, fun j hj => ?_⟩, fun h => by omega, fun h => by omega, fun h => by omega, fun h => by omega⟩ d3) d2 (hS.put d2 d3 hA)
  by_cases hjk : j = k
  · subst hjk
    rw [show vp_V (fs.set j v) j = v by simp [vp_V, hl, List.getD_eq_getElem?_getD]]
    exact hv
  · rw [show vp_V (fs.set k v) j = vp_V fs j by simp [vp_V, List.getD_eq_getElem?_getD, List.getElem?_set, Ne.symm hjk]]
    exact e4 j hj
end THW
section THA
variable {p : Program} {l : Launch} {e : Env} {R : Room} {s : State} {m : MethodId} {args : Array Value} {below : List Frame} {meth : Method} {c : Code} {H : Heap} {locs : List Loc} {cells slots : Nat} {Q : State → Prop}
variable {cc : ByteArray} {pc : Nat} {ls : Array Slot} {rest : List Value} {D : va_G} {cl : List vw_C} {A : Nat → Prop} {a : Nat} {tys : List (ClassId × FieldType)} {H0 : Heap} {cy : Nat → ClassId} {F : Nat → Nat → TF} {σ : TS}
theorem th_one {e0 : va_E} (h : va_at D cl (a, e0) H) : va_P D cl [(a, e0)] H := fun k q h1 => by
  match k, h1 with
  | 0, h1 => cases h1; exact h
  | k + 1, h1 => simp at h1
theorem th_iald (hexec : p.tables.exec = Jvm.exec) (hb : c.code = cc) (hK : va_K D cl tys s) (hT : TH D cl cy F σ H) {n : Nat} (ha : σ a = some (21, n)) (t0 : Nat) (ht : tys[t0]? = some (cy 21, .int)) {i : Int32} (hin : vp_in i n) (hdg : decode cc pc = .ok (.iaload, 1))
    (kk : ∀ x : Int32, W p l e R s m args below meth c H locs cells slots Q (F0 m (pc + 1) ls (.int x :: rest))) : W p l e R s m args below meth c H locs cells slots Q (F0 m pc ls (.int i :: .ref a :: rest)) := by
  obtain ⟨f, hf⟩ := (hT a 21 n ha).2.1 (Or.inr rfl)
  exact va_iald hexec hb hK (th_one hf) 0 t0 rfl ht hin hdg (kk _)
theorem th_bald (hexec : p.tables.exec = Jvm.exec) (hb : c.code = cc) (hK : va_K D cl tys s) (hT : TH D cl cy F σ H) {n : Nat} (ha : σ a = some (20, n)) (t0 : Nat) (ht : tys[t0]? = some (cy 20, .byte)) {i : Int32} (hin : vp_in i n) (hdg : decode cc pc = .ok (.baload, 1))
    (kk : ∀ x : Int32, W p l e R s m args below meth c H locs cells slots Q (F0 m (pc + 1) ls (.int x :: rest))) : W p l e R s m args below meth c H locs cells slots Q (F0 m pc ls (.int i :: .ref a :: rest)) := by
  obtain ⟨f, hf⟩ := (hT a 20 n ha).2.1 (Or.inl rfl)
  exact va_bald hexec hb hK (th_one hf) 0 t0 rfl ht hin hdg (kk _)
theorem th_lald (hexec : p.tables.exec = Jvm.exec) (hb : c.code = cc) (hK : va_K D cl tys s) (hT : TH D cl cy F σ H) {n : Nat} (ha : σ a = some (22, n)) (t0 : Nat) (ht : tys[t0]? = some (cy 22, .long)) {i : Int32} (hin : vp_in i n) (hdg : decode cc pc = .ok (.laload, 1))
    (kk : ∀ x : Int64, W p l e R s m args below meth c H locs cells slots Q (F0 m (pc + 1) ls (.long x :: rest))) : W p l e R s m args below meth c H locs cells slots Q (F0 m pc ls (.int i :: .ref a :: rest)) := by
  obtain ⟨f, hf⟩ := (hT a 22 n ha).2.2.1 rfl
  exact va_lald hexec hb hK (th_one hf) 0 t0 rfl ht hin hdg (kk _)
theorem th_alen_i (hexec : p.tables.exec = Jvm.exec) (hb : c.code = cc) (hK : va_K D cl tys s) (hT : TH D cl cy F σ H) {n : Nat} (ha : σ a = some (21, n)) (t0 : Nat) (ht : tys[t0]? = some (cy 21, .int)) (hdg : decode cc pc = .ok (.arraylength, 1))
    (kk : W p l e R s m args below meth c H locs cells slots Q (F0 m (pc + 1) ls (.int (nI n) :: rest))) : W p l e R s m args below meth c H locs cells slots Q (F0 m pc ls (.ref a :: rest)) := by
  obtain ⟨f, hf⟩ := (hT a 21 n ha).2.1 (Or.inr rfl)
  exact va_alen hexec hb hK (th_one hf) 0 t0 rfl ht rfl hdg kk
theorem th_alen_l (hexec : p.tables.exec = Jvm.exec) (hb : c.code = cc) (hK : va_K D cl tys s) (hT : TH D cl cy F σ H) {n : Nat} (ha : σ a = some (22, n)) (t0 : Nat) (ht : tys[t0]? = some (cy 22, .long)) (hdg : decode cc pc = .ok (.arraylength, 1))
    (kk : W p l e R s m args below meth c H locs cells slots Q (F0 m (pc + 1) ls (.int (nI n) :: rest))) : W p l e R s m args below meth c H locs cells slots Q (F0 m pc ls (.ref a :: rest)) := by
  obtain ⟨f, hf⟩ := (hT a 22 n ha).2.2.1 rfl
  exact va_alen hexec hb hK (th_one hf) 0 t0 rfl ht rfl hdg kk
theorem th_alen_b (hexec : p.tables.exec = Jvm.exec) (hb : c.code = cc) (hK : va_K D cl tys s) (hT : TH D cl cy F σ H) {n : Nat} (ha : σ a = some (20, n)) (t0 : Nat) (ht : tys[t0]? = some (cy 20, .byte)) (hdg : decode cc pc = .ok (.arraylength, 1))
    (kk : W p l e R s m args below meth c H locs cells slots Q (F0 m (pc + 1) ls (.int (nI n) :: rest))) : W p l e R s m args below meth c H locs cells slots Q (F0 m pc ls (.ref a :: rest)) := by
  obtain ⟨f, hf⟩ := (hT a 20 n ha).2.1 (Or.inl rfl)
  exact va_alen hexec hb hK (th_one hf) 0 t0 rfl ht rfl hdg kk
theorem th_alen_c (hexec : p.tables.exec = Jvm.exec) (hb : c.code = cc) (hK : va_K D cl tys s) (hT : TH D cl cy F σ H) {n : Nat} (ha : σ a = some (24, n)) (t0 : Nat) {C : String} (ht : tys[t0]? = some (cy 24, .object C)) (hdg : decode cc pc = .ok (.arraylength, 1))
    (kk : W p l e R s m args below meth c H locs cells slots Q (F0 m (pc + 1) ls (.int (nI n) :: rest))) : W p l e R s m args below meth c H locs cells slots Q (F0 m pc ls (.ref a :: rest)) := by
  obtain ⟨f, hf, -⟩ := (hT a 24 n ha).2.2.2.1 rfl
  exact va_alen hexec hb hK (th_one hf) 0 t0 rfl ht rfl hdg kk
theorem th_cald (hexec : p.tables.exec = Jvm.exec) (hb : c.code = cc) (hK : va_K D cl tys s) (hT : TH D cl cy F σ H) {n : Nat} (ha : σ a = some (24, n)) (t0 : Nat) {C : String} (ht : tys[t0]? = some (cy 24, .object C)) {i : Int32} (hn : n < 2 ^ 31) (hin : vp_in i n) (hdg : decode cc pc = .ok (.aaload, 1))
    (kk : ∀ b : Nat, th_r σ 1 0 0 b → W p l e R s m args below meth c H locs cells slots Q (F0 m (pc + 1) ls (.ref b :: rest))) : W p l e R s m args below meth c H locs cells slots Q (F0 m pc ls (.int i :: .ref a :: rest)) := by
  obtain ⟨f, hf, he⟩ := (hT a 24 n ha).2.2.2.1 rfl
  obtain ⟨j, hj, ej⟩ := vp_in_of hin hn
  obtain ⟨b, h1, h2⟩ := he j hj
  refine va_aldq hexec hb hK (th_one hf) 0 t0 rfl ht hin hdg ?_
  rw [ej, nI_clamp (by omega), h1]
  exact kk b h2
/-- one cell of ints is written -/
theorem th_iast (hexec : p.tables.exec = Jvm.exec) (hb : c.code = cc) (hK : va_K D cl tys s) (hT : TH D cl cy F σ H) (hS : va_S A H0 H locs) {n : Nat} (ha : σ a = some (21, n)) (hA : A a) (t0 : Nat) (ht : tys[t0]? = some (cy 21, .int)) {i x : Int32} (hin : vp_in i n) (hdg : decode cc pc = .ok (.iastore, 1))
    (kk : ∀ (H1 : Heap) (locs1 : List Loc), TH D cl cy F σ H1 → H1.size = H.size → va_S A H0 H1 locs1 → W p l e R s m args below meth c H1 locs1 cells slots Q (F0 m (pc + 1) ls rest)) : W p l e R s m args below meth c H locs cells slots Q (F0 m pc ls (.int x :: .int i :: .ref a :: rest)) := by
  obtain ⟨f, hf⟩ := (hT a 21 n ha).2.1 (Or.inr rfl)
  refine W.iast hexec hb hf ((hK.2 t0 _ ht).1 n (fun j => .int (f j))) (fun q => by cases q) (by show ¬ (i < 0 ∨ (arrV _ _ _).slots.size ≤ _); rw [arrV_size]; exact hin) rfl rfl hdg fun H1 e1 z oq => ?_
  refine kk H1 _ (hT.put ha ⟨fun h => by omega, fun _ => ⟨upd f i.toNatClampNeg x, ?_⟩, fun h => by omega, fun h => by omega, fun h => by omega⟩ oq) z (hS.put z oq hA)
  have e2 : H1[a]? = some ((vp_cell (cy 21) (n, .inl f)).setSlot i.toNatClampNeg (.int x)) := e1
  show H1[a]? = some (vp_cell (cy 21) (n, .inl (upd f i.toNatClampNeg x)))
  rw [e2, vp_cell_i, vp_cell_i, arrV_store]
  congr 2
  funext q
  by_cases hq : q = i.toNatClampNeg
  · subst hq
    simp [updV, upd]
  · simp [updV, upd, hq]
end THA
