def iw (z : Int) : Int := (iI z).toInt
theorem iw_eq (z : Int) : iI (iw z) = iI z := iI_self _
theorem iw_rng (z : Int) : -2147483648 ≤ iw z ∧ iw z ≤ 2147483647 := inR_toInt _
/-! rows that the class needs beyond those of the reference -/
section WPX
variable {d : Nat} {M : MT} {pc : Nat} {P : PH} {sz : Nat} {L : List (Nat × Value)} {st : List Value} {o : Option Value × PH × Nat × Nat} {a : Nat}
theorem wp_aaldM {n : Nat} {f : Nat → Option Nat} {i : Int32} (hd : decode M.2.1 pc = .ok (.aaload, 1)) (hP : P a = some (.inl (6, n, .inr (.inr (.inr (.inr f)))))) (hin : vp_in i n) (kk : Wp d M (pc + 1) P sz L (va_rf (f i.toNatClampNeg) :: st) o) : Wp d M pc P sz L (.int i :: .ref a :: st) o := by
  intro l D bs p e R s m args below meth c H locs cells slots ls C hW hz hS hl hc hn
  obtain ⟨-, cA, h1, h2⟩ := hW a _ hP
  have hlt : i.toNatClampNeg < n := Nat.not_le.mp fun q => hin (Or.inr q)
  exact W.aald (v := va_rf (f i.toNatClampNeg)) (ty := .array .int) C.1 C.2.1 h2 (h1.1 n (fun j => va_rf (f j))) rfl (fun q => by cases q) (by show ¬ (i < 0 ∨ (arrV _ _ _).slots.size ≤ _); rw [arrV_size]; exact hin) (by show (arrV _ _ _).slots[_]? = _; rw [arrV_read _ _ hlt]) rfl rfl hd (kk l D bs p e R s m args below meth c H locs cells slots ls C hW hz hS hl hc hn)
theorem aast_same {n i v : Nat} {f : Nat → Option Nat} {cA : ClassId} : (arrV cA n (fun j => va_rf (f j))).setSlot i (.ref v) = arrV cA n (fun j => va_rf (va_up f i (some v) j)) := by
  rw [arrV_store]
  congr 1
  funext q
  by_cases hq : q = i
  · subst hq
    simp [updV, va_up, va_rf]
  · simp [updV, va_up, hq]
theorem wp_aastQ {n v : Nat} {f : Nat → Option Nat} {fs : List Value} {i : Int32} (hd : decode M.2.1 pc = .ok (.aastore, 1)) (hP : P a = some (.inl (5, n, .inr (.inr (.inr (.inr f)))))) (hv : P v = some (.inr (1, fs))) (hin : vp_in i n) (kk : Wp d M (pc + 1) (pS P a (.inl (5, n, .inr (.inr (.inr (.inr (va_up f i.toNatClampNeg (some v)))))))) sz L st o) : Wp d M pc P sz L (.ref v :: .int i :: .ref a :: st) o := by
  intro l D bs p e R s m args below meth c H locs cells slots ls C hW hz hS hl hc hn
  obtain ⟨hba, cA, h1, h2⟩ := hW a _ hP
  obtain ⟨-, ⟨r1, hr1, cell, q1, q2, q3, -⟩, r3, h3, h5⟩ := hW v _ hv
  have hlt : i.toNatClampNeg < n := Nat.not_le.mp fun q => hin (Or.inr q)
  have h0 : ¬ i < 0 := fun q => hin (Or.inl q)
  obtain ⟨-, hcls⟩ := (pC_K C).1 1 r1 hr1
  have hnm : r1.1 = "LineKeeper$Code" := by
    have e : r1 = (RX1, TX1, 12) := Option.some.inj (hr1.symm.trans rfl)
    rw [e]; rfl
  rw [hnm] at hcls
  obtain ⟨kA, comp, k1, k2, k3, -⟩ := h1.2
  have hcomp : comp = D.1 1 := Option.some.inj (k3.symm.trans hcls.1)
  subst hcomp
  have has := va_assign hcls
  obtain ⟨kC, hkC, -⟩ := hcls.2
  refine W.aast C.1 C.2.1 h2 (fun q h => by cases h) (fun h => by cases h) k1 k2 rfl hkC ⟨h0, by show _ < (arrV _ _ _).slots.size; rw [arrV_size]; exact hlt⟩ q1 (fun q h => by rw [q3] at h; cases h) (by rw [q2]; exact hkC) (by rw [q2]; exact has) rfl rfl hd fun H1 e1 z oq => ?_
  exact kk l D bs p e R s m args below meth c H1 _ cells slots ls C (hW.put hba ⟨cA, h1, by rw [e1]; exact congrArg some aast_same⟩ oq) (z.trans hz) (hS.put z oq hba) hl hc hn
theorem wp_aastM {n v m1 t : Nat} {f : Nat → Option Nat} {g : Nat → Int32} {i : Int32} (hd : decode M.2.1 pc = .ok (.aastore, 1)) (hP : P a = some (.inl (6, n, .inr (.inr (.inr (.inr f)))))) (hv : P v = some (.inl (0, m1, .inl g))) (hin : vp_in i n) (kk : Wp d M (pc + 1) (pS P a (.inl (6, n, .inr (.inr (.inr (.inr (va_up f i.toNatClampNeg (some v)))))))) sz L st o) : Wp d M pc P sz L (.ref v :: .int i :: .ref a :: st) o := by
  intro l D bs p e R s m args below meth c H locs cells slots ls C hW hz hS hl hc hn
  obtain ⟨hba, cA, h1, h2⟩ := hW a _ hP
  obtain ⟨-, cB, h3, h4⟩ := hW v _ hv
  have hlt : i.toNatClampNeg < n := Nat.not_le.mp fun q => hin (Or.inr q)
  have h0 : ¬ i < 0 := fun q => hin (Or.inl q)
  obtain ⟨comp, c2, k, g1, -, g3, g4, g5⟩ := arrayOverA_spec (pC_G C).1.2.2
  have e1 : c2 = cA := Option.some.inj (g5.symm.trans h1.2)
  have e2 : comp = cB := Option.some.inj (g1.symm.trans h3.2)
  subst e1
  subst e2
  obtain ⟨-, kB, hkB, -⟩ := h3.1 0 (fun _ => .null)
  refine W.aast C.1 C.2.1 h2 (fun q h => by cases h) (fun h => by cases h) g3 g4 rfl hkB ⟨h0, by show _ < (arrV _ _ _).slots.size; rw [arrV_size]; exact hlt⟩ h4 (fun q h => by cases h) hkB (by show Vm.assignableAux s.vm (255 + 1) comp comp = true; rw [Vm.assignableAux, beq_self_eq_true, Bool.true_or]) rfl rfl hd fun H1 e1 z oq => ?_
  exact kk l D bs p e R s m args below meth c H1 _ cells slots ls C (hW.put hba ⟨c2, h1, by rw [e1]; exact congrArg some aast_same⟩ oq) (z.trans hz) (hS.put z oq hba) hl hc hn
theorem rf_none (cA : ClassId) (n : Nat) : ({ cls := cA, slots := Array.replicate n .null, vm := .none } : Cell) = vp_cell cA (n, .inr (.inr (.inr (.inr (fun _ => none))))) := by
  rw [vp_cell_q]
  show _ = arrV cA n (fun _ => .null)
  unfold arrV
  congr 1
  apply Array.ext
  · simp
  · intro i h1 h2
    simp
theorem wp_anewQ {ix N : Nat} {n : Int32} (hd : decode M.2.1 pc = .ok (.anewarray ix, 3)) (hw : Cond.classLink M.1.cls ix "LineKeeper$Code" ∈ pWW) (hneg : ¬ n < 0) (hN : n.toNatClampNeg = N) (hb9 : N ≤ 1000) {o1 : Option Value} {P1 : PH} {s1 n1 : Nat} (hm : sz + 1 ≤ s1) (kk : Wp d M (pc + 3) (pS P sz (.inl (5, N, .inr (.inr (.inr (.inr (fun _ => none))))))) (sz + 1) L (.ref sz :: st) (o1, P1, s1, n1)) : Wp d M pc P sz L (.int n :: st) (o1, P1, s1, N + n1) := by
  intro l D bs p e R s m args below meth c H locs cells slots ls C hW hz hS hl hc hn
  dsimp only at hc hn
  subst hz
  subst hN
  refine W.anew (C := "LineKeeper$Code") C.1 C.2.1 (pC_own C) (pC_word C hw) (va_AO.use (pC_G C).1.2.1) rfl hd rfl hneg (by omega) (by omega) (by omega) fun cA kA comp f1 f2 f3 f4 => ?_
  rw [rf_none]
  generalize hH1 : H.push (vp_cell cA (n.toNatClampNeg, .inr (.inr (.inr (.inr (fun _ => none)))))) = H1
  have z1 : H1.size = H.size + 1 := by rw [← hH1, Array.size_push]
  have o1 : ∀ q : Nat, q < H.size → H1[q]? = H[q]? := fun q hq => by rw [← hH1, Array.getElem?_push, if_neg (Nat.ne_of_lt hq)]
  exact kk l D bs p e R s m args below meth c H1 locs (cells + 1) (slots + n.toNatClampNeg) ls C (hW.push (Nat.le_trans (pC_G C).2.1 hS.1) ⟨cA, ⟨fun n2 z2 => ⟨(fun q h => by cases h), kA, f2, comp, f3⟩, kA, comp, f2, f3, f4, f1⟩, by rw [← hH1]; simp⟩ o1) z1 ⟨Nat.le_trans hS.1 (by omega), fun x h1 h2 => (o1 x (Nat.lt_of_lt_of_le h1 hS.1)).trans (hS.2.1 x h1 h2), hS.2.2⟩ hl (by dsimp only; omega) (by dsimp only; omega)
theorem wp_anewM {ix N : Nat} {n : Int32} (hd : decode M.2.1 pc = .ok (.anewarray ix, 3)) (hw : Cond.classLink M.1.cls ix "[I" ∈ pWW) (hneg : ¬ n < 0) (hN : n.toNatClampNeg = N) (hb9 : N ≤ 1000) {o1 : Option Value} {P1 : PH} {s1 n1 : Nat} (hm : sz + 1 ≤ s1) (kk : Wp d M (pc + 3) (pS P sz (.inl (6, N, .inr (.inr (.inr (.inr (fun _ => none))))))) (sz + 1) L (.ref sz :: st) (o1, P1, s1, n1)) : Wp d M pc P sz L (.int n :: st) (o1, P1, s1, N + n1) := by
  intro l D bs p e R s m args below meth c H locs cells slots ls C hW hz hS hl hc hn
  dsimp only at hc hn
  subst hz
  subst hN
  refine W.anewA (t := .int) C.1 C.2.1 (pC_own C) (pC_word C hw) (pC_G C).1.2.2 rfl hd rfl hneg (by omega) (by omega) (by omega) fun cA kA comp f1 f2 f3 f4 => ?_
  rw [rf_none]
  generalize hH1 : H.push (vp_cell cA (n.toNatClampNeg, .inr (.inr (.inr (.inr (fun _ => none)))))) = H1
  have z1 : H1.size = H.size + 1 := by rw [← hH1, Array.size_push]
  have o1 : ∀ q : Nat, q < H.size → H1[q]? = H[q]? := fun q hq => by rw [← hH1, Array.getElem?_push, if_neg (Nat.ne_of_lt hq)]
  exact kk l D bs p e R s m args below meth c H1 locs (cells + 1) (slots + n.toNatClampNeg) ls C (hW.push (Nat.le_trans (pC_G C).2.1 hS.1) ⟨cA, ⟨fun n2 z2 => ⟨(fun q h => by cases h), kA, f2, comp, f3⟩, f1⟩, by rw [← hH1]; simp⟩ o1) z1 ⟨Nat.le_trans hS.1 (by omega), fun x h1 h2 => (o1 x (Nat.lt_of_lt_of_le h1 hS.1)).trans (hS.2.1 x h1 h2), hS.2.2⟩ hl (by dsimp only; omega) (by dsimp only; omega)
theorem nfw_ac : nativeFrameWords "java/lang/System" "arraycopy" 5 = 7 := by decide +kernel
/-- a part of an array is copied -/
theorem wp_acopy {ix n0 n1 a0 ty : Nat} {A0 A1 A2 : vp_A} {sp dp n : Int32} (hd : decode M.2.1 pc = .ok (.invokestatic ix, 3)) (hw : Cond.methodLink M.1.cls ix arraycopyName ∈ pWW) (hw2 : Cond.native arraycopyName ∈ pWW) (hw3 : Cond.static arraycopyName ∈ pWW) (hw4 : Cond.initialized "java/lang/System" ∈ pWW)
    (hP0 : P a0 = some (.inl (ty, A0))) (hP1 : P a = some (.inl (ty, A1))) (hpr : refKind (pTy ty) = false) (z0 : ∀ c, (vp_cell c A0).slots.size = n0) (z1 : ∀ c, (vp_cell c A1).slots.size = n1) (hv0 : ∀ c c', (vp_cell c A0).vm = (vp_cell c' A1).vm ∧ (vp_cell c A0).vm = .none ∧ (vp_cell c A0).cls = c ∧ (vp_cell c' A1).cls = c')
    (hfit : ∀ c i, i < n0 → fits (pTy ty) ((vp_cell c A0).slots.getD i .null) = true ∧ ∀ q, (vp_cell c A0).slots.getD i .null ≠ .ref q) (hcp : ∀ c c', copied (vp_cell c A0) (vp_cell c' A1) sp dp n = vp_cell c' A2)
    (h1 : ¬ sp < 0) (h2 : ¬ dp < 0) (h3 : ¬ n < 0) (h4 : sp.toInt + n.toInt ≤ n0) (h5 : dp.toInt + n.toInt ≤ n1) (hd1 : 0 < d) (hcat : (st.map fun v => v.category).sum ≤ 8) (kk : Wp d M (pc + 3) (pS P a (.inl (ty, A2))) sz L st o) : Wp d M pc P sz L (.int n :: .int dp :: .ref a :: .int sp :: .ref a0 :: st) o := by
  intro l D bs p e R s m args below meth c H locs cells slots ls C hW hz hS hl hc hn
  obtain ⟨-, c0, t0, g0⟩ := hW a0 _ hP0
  obtain ⟨hba, c1, t1, g1⟩ := hW a _ hP1
  obtain ⟨-, k0, hk0, cm0, hkk0⟩ := t0.1 0 (fun _ => .null)
  obtain ⟨-, k1, hk1, cm1, hkk1⟩ := t1.1 0 (fun _ => .null)
  have nn : ∀ z : Int32, ¬ z < 0 → z.toInt = (z.toNatClampNeg : Int) := fun z hz9 => by
    have q : (0 : Int) ≤ z.toInt := by
      have := Int32.le_iff_toInt_le.mp (Int32.not_lt.mp hz9)
      simpa using this
    show z.toInt = ((z.toInt.toNat : Nat) : Int)
    omega
  intro T hT X
  obtain ⟨e1, e2, e3, e4⟩ := hv0 c0 c1
  have e5 : (vp_cell c1 A1).vm = .none := by rw [← e1]; exact e2
  obtain ⟨vm', X', step⟩ := X.arraycopy C.1 (pC_own C) (pC_word C hw) (pC_word C hw2) (pC_word C hw3) (pC_word C hw4) (src := a0) (dst := a) (srcPos := sp) (destPos := dp) (n := n) (by rw [hT]; exact g0) (by rw [hT]; exact g1) (fun k h => by rw [e2] at h; cases h) (fun k h => by rw [e5] at h; cases h) (fun h => by rw [e2] at h; cases h) (fun h => by rw [e5] at h; cases h) (by rw [e3]; exact hk0) (by rw [e4]; exact hk1) hkk0 hkk1 (by simp [hpr]) h1 h2 h3 (by rw [z0]; omega) (by rw [z1]; omega)
    (fun vm9 _ i hi => by
      have hj : sp.toNatClampNeg + i < n0 := by rw [nn sp h1, nn n h3] at h4; omega
      obtain ⟨f1, f2⟩ := hfit c0 _ hj
      refine ⟨f1, ?_⟩
      cases hq : (vp_cell c0 A0).slots.getD (sp.toNatClampNeg + i) .null with
      | ref q => exact absurd hq (f2 q)
      | _ => exact trivial)
    (g := F0 m pc ls (.int n :: .int dp :: .ref a :: .int sp :: .ref a0 :: st)) rfl (by rw [C.2.2.1]; exact hl.1) (rest := st) rfl (by rw [C.2.1]; exact hd) (by rw [(pC_R C).1]; exact hd1) (by rw [(pC_R C).2]; show 2 * 0 + _ + (nativeFrameWords "java/lang/System" "arraycopy" 5 + 11) ≤ _; rw [nfw_ac]; omega)
  rw [hcp c0 c1] at X' step
  have hl9 : a < H.size := (Array.getElem?_eq_some_iff.mp g1).1
  have hh : ((T.setVm vm').setCell a (vp_cell c1 A2)).heap = H.setIfInBounds a (vp_cell c1 A2) := by rw [← hT]; rfl
  have oq : ∀ q : Nat, q ≠ a → (H.setIfInBounds a (vp_cell c1 A2))[q]? = H[q]? := fun q hq => by simp [Array.getElem?_setIfInBounds, Ne.symm hq]
  have hself : (H.setIfInBounds a (vp_cell c1 A2))[a]? = some (vp_cell c1 A2) := by simp [Array.getElem?_setIfInBounds, hl9]
  have hsz9 : (H.setIfInBounds a (vp_cell c1 A2)).size = H.size := by simp
  obtain ⟨t, a1, b1⟩ := kk l D bs p e R s m args below meth c _ _ cells slots ls C (hW.put hba ⟨c1, t1, hself⟩ oq) (hsz9.trans hz) ⟨by rw [hsz9]; exact hS.1, fun q g1 g2 => by
      rw [oq q (fun e => g2 (by rw [e]; exact hba))]
      exact hS.2.1 q g1 g2, fun q hq => by
      rcases List.mem_append.mp hq with h | h
      · exact hS.2.2 q h
      · obtain ⟨z, -, hz9⟩ := List.mem_map.mp h
        rw [← hz9]
        exact hba⟩ hl hc hn _ hh X'
  exact ⟨t, step t a1, b1⟩
theorem wp_acopyI {ix n0 n1 a0 : Nat} {f g : Nat → Int32} {sp dp n : Int32} (hd : decode M.2.1 pc = .ok (.invokestatic ix, 3)) (hw : Cond.methodLink M.1.cls ix arraycopyName ∈ pWW) (hw2 : Cond.native arraycopyName ∈ pWW) (hw3 : Cond.static arraycopyName ∈ pWW) (hw4 : Cond.initialized "java/lang/System" ∈ pWW) (hP0 : P a0 = some (.inl (0, n0, .inl f))) (hP1 : P a = some (.inl (0, n1, .inl g))) (h1 : ¬ sp < 0) (h2 : ¬ dp < 0) (h3 : ¬ n < 0) (h4 : sp.toInt + n.toInt ≤ n0) (h5 : dp.toInt + n.toInt ≤ n1) (hd1 : 0 < d) (hcat : (st.map fun v => v.category).sum ≤ 8) (kk : Wp d M (pc + 3) (pS P a (.inl (0, n1, .inl (va_cpy f g sp.toNatClampNeg dp.toNatClampNeg n.toNatClampNeg)))) sz L st o) : Wp d M pc P sz L (.int n :: .int dp :: .ref a :: .int sp :: .ref a0 :: st) o :=
  wp_acopy (n0 := n0) (n1 := n1) (A2 := (n1, .inl (va_cpy f g sp.toNatClampNeg dp.toNatClampNeg n.toNatClampNeg))) hd hw hw2 hw3 hw4 hP0 hP1 rfl (fun c => arrV_size _ _ _) (fun c => arrV_size _ _ _) (fun _ _ => ⟨rfl, rfl, rfl, rfl⟩) (fun c i hi => by
    have e : (vp_cell c (n0, .inl f)).slots.getD i .null = .int (f i) := by
      show (arrV c n0 (fun j => .int (f j))).slots.getD _ _ = _
      rw [Array.getD_eq_getD_getElem?, arrV_read _ _ hi]
      rfl
    rw [e]
    exact ⟨rfl, fun q h => by cases h⟩) (fun c c' => va_copied (n0 := n0) (n1 := n1) (sp := sp.toNatClampNeg) (dp := dp.toNatClampNeg) (n := n.toNatClampNeg) (fun z => .int z) c c' f g (by
      have e1 : sp.toInt = (sp.toNatClampNeg : Int) := by
        have := Int32.le_iff_toInt_le.mp (Int32.not_lt.mp h1)
        have q : (0 : Int) ≤ sp.toInt := by simpa using this
        show sp.toInt = ((sp.toInt.toNat : Nat) : Int)
        omega
      have e2 : n.toInt = (n.toNatClampNeg : Int) := by
        have := Int32.le_iff_toInt_le.mp (Int32.not_lt.mp h3)
        have q : (0 : Int) ≤ n.toInt := by simpa using this
        show n.toInt = ((n.toInt.toNat : Nat) : Int)
        omega
      omega)) h1 h2 h3 h4 h5 hd1 hcat kk
theorem wp_acopyL {ix n0 n1 a0 : Nat} {f g : Nat → Int64} {sp dp n : Int32} (hd : decode M.2.1 pc = .ok (.invokestatic ix, 3)) (hw : Cond.methodLink M.1.cls ix arraycopyName ∈ pWW) (hw2 : Cond.native arraycopyName ∈ pWW) (hw3 : Cond.static arraycopyName ∈ pWW) (hw4 : Cond.initialized "java/lang/System" ∈ pWW) (hP0 : P a0 = some (.inl (3, n0, .inr (.inl f)))) (hP1 : P a = some (.inl (3, n1, .inr (.inl g)))) (h1 : ¬ sp < 0) (h2 : ¬ dp < 0) (h3 : ¬ n < 0) (h4 : sp.toInt + n.toInt ≤ n0) (h5 : dp.toInt + n.toInt ≤ n1) (hd1 : 0 < d) (hcat : (st.map fun v => v.category).sum ≤ 8) (kk : Wp d M (pc + 3) (pS P a (.inl (3, n1, .inr (.inl (va_cpy f g sp.toNatClampNeg dp.toNatClampNeg n.toNatClampNeg))))) sz L st o) : Wp d M pc P sz L (.int n :: .int dp :: .ref a :: .int sp :: .ref a0 :: st) o :=
  wp_acopy (n0 := n0) (n1 := n1) (A2 := (n1, .inr (.inl (va_cpy f g sp.toNatClampNeg dp.toNatClampNeg n.toNatClampNeg)))) hd hw hw2 hw3 hw4 hP0 hP1 rfl (fun c => arrV_size _ _ _) (fun c => arrV_size _ _ _) (fun _ _ => ⟨rfl, rfl, rfl, rfl⟩) (fun c i hi => by
    have e : (vp_cell c (n0, .inr (.inl f))).slots.getD i .null = .long (f i) := by
      show (arrV c n0 (fun j => .long (f j))).slots.getD _ _ = _
      rw [Array.getD_eq_getD_getElem?, arrV_read _ _ hi]
      rfl
    rw [e]
    exact ⟨rfl, fun q h => by cases h⟩) (fun c c' => va_copied (n0 := n0) (n1 := n1) (sp := sp.toNatClampNeg) (dp := dp.toNatClampNeg) (n := n.toNatClampNeg) (fun z => .long z) c c' f g (by
      have e1 : sp.toInt = (sp.toNatClampNeg : Int) := by
        have := Int32.le_iff_toInt_le.mp (Int32.not_lt.mp h1)
        have q : (0 : Int) ≤ sp.toInt := by simpa using this
        show sp.toInt = ((sp.toInt.toNat : Nat) : Int)
        omega
      have e2 : n.toInt = (n.toNatClampNeg : Int) := by
        have := Int32.le_iff_toInt_le.mp (Int32.not_lt.mp h3)
        have q : (0 : Int) ≤ n.toInt := by simpa using this
        show n.toInt = ((n.toInt.toNat : Nat) : Int)
        omega
      omega)) h1 h2 h3 h4 h5 hd1 hcat kk
/-- the class's tables -/
def pSt (Cn Fn De : String) (ty : FieldType) (N : Nat) (tb : List Int32) : Prop := ∀ bs U, pKs bs U → ∃ t : Nat, va_Z Cn Fn De (.ref t) (pA bs) U U.heap ∧ va_T ty t N (fun j => .int (tb.getD j 0)) (pA bs) U U.heap
theorem st_wk : pSt "LineKeeper$Tokens" "WORD_KEYS" "[I" .int 5 wkI := fun _ _ h => h.2.2.1
theorem st_sg : pSt "LineKeeper$Tokens" "SIGNS" "[C" .char 11 sgB := fun _ _ h => h.2.2.2.1
theorem st_ak : pSt "LineKeeper" "ASKED" "[I" .int 8 akI := fun _ _ h => h.2.2.2.2
theorem wp_stLen {Cn Fn De : String} {ty : FieldType} {N ix : Nat} {tb : List Int32} (hT : pSt Cn Fn De ty N tb) (h1 : decode M.2.1 pc = .ok (.getstatic ix, 3)) (hw : Cond.fieldLink M.1.cls ix Cn Fn De ∈ pWW) (h2 : decode M.2.1 (pc + 3) = .ok (.arraylength, 1)) (kk : Wp d M (pc + 4) P sz L (.int (Int32.ofNat N) :: st) o) : Wp d M pc P sz L st o := by
  intro l D bs p e R s m args below meth c H locs cells slots ls C hW hz hS hl hc hn
  obtain ⟨t, hZ, hTt⟩ := hT bs s (pC_G C).2.2
  exact va_gets C.1 C.2.1 hZ hS (pC_own C) (pC_word C hw) (fun _ h => h) h1 (va_tlen C.1 C.2.1 hTt hS rfl h2 (kk l D bs p e R s m args below meth c H locs cells slots ls C hW hz hS hl hc hn))
theorem wp_stInt {Cn Fn De : String} {N ix i q ln : Nat} {x v : Int32} {tb : List Int32} (hT : pSt Cn Fn De .int N tb) (h1 : decode M.2.1 pc = .ok (.getstatic ix, 3)) (hw : Cond.fieldLink M.1.cls ix Cn Fn De ∈ pWW) (h2 : (∃ kf : Fin 4, (kf : Nat) = i ∧ ln = 1 ∧ decode M.2.1 (pc + 3) = .ok (.iload_n kf, 1)) ∨ (ln = 2 ∧ decode M.2.1 (pc + 3) = .ok (.iload i, 2))) (hq : L[q]? = some (i, .int x)) (h3 : decode M.2.1 (pc + 3 + ln) = .ok (.iaload, 1)) (hin : vp_in x N) (hv : tb.getD x.toNatClampNeg 0 = v) (kk : Wp d M (pc + 3 + ln + 1) P sz L (.int v :: st) o) : Wp d M pc P sz L st o := by
  intro l D bs p e R s m args below meth c H locs cells slots ls C hW hz hS hl hc hn
  obtain ⟨t, hZ, hTt⟩ := hT bs s (pC_G C).2.2
  refine va_gets C.1 C.2.1 hZ hS (pC_own C) (pC_word C hw) (fun _ h => h) h1 ?_
  rcases h2 with ⟨kf, hk, rfl, h2⟩ | ⟨rfl, h2⟩
  · exact lv_iload_n C.1 C.2.1 h2 hk (lv_at hl q hq) (va_ti C.1 C.2.1 hTt hS hin (v := .int v) (by rw [← hv]) h3 (kk l D bs p e R s m args below meth c H locs cells slots ls C hW hz hS hl hc hn))
  · exact lv_iload C.1 C.2.1 h2 (lv_at hl q hq) (va_ti C.1 C.2.1 hTt hS hin (v := .int v) (by rw [← hv]) h3 (kk l D bs p e R s m args below meth c H locs cells slots ls C hW hz hS hl hc hn))
theorem wp_stChr {Cn Fn De : String} {N ix i q : Nat} {x v : Int32} {tb : List Int32} {kf : Fin 4} (hT : pSt Cn Fn De .char N tb) (h1 : decode M.2.1 pc = .ok (.getstatic ix, 3)) (hw : Cond.fieldLink M.1.cls ix Cn Fn De ∈ pWW) (h2 : decode M.2.1 (pc + 3) = .ok (.iload_n kf, 1)) (hk : (kf : Nat) = i) (hq : L[q]? = some (i, .int x)) (h3 : decode M.2.1 (pc + 4) = .ok (.caload, 1)) (hin : vp_in x N) (hv : tb.getD x.toNatClampNeg 0 = v) (kk : Wp d M (pc + 5) P sz L (.int v :: st) o) : Wp d M pc P sz L st o := by
  intro l D bs p e R s m args below meth c H locs cells slots ls C hW hz hS hl hc hn
  obtain ⟨t, hZ, hTt⟩ := hT bs s (pC_G C).2.2
  exact va_gets C.1 C.2.1 hZ hS (pC_own C) (pC_word C hw) (fun _ h => h) h1 (lv_iload_n C.1 C.2.1 h2 hk (lv_at hl q hq) (va_tc C.1 C.2.1 hTt hS hin (v := .int v) (by rw [← hv]) h3 (kk l D bs p e R s m args below meth c H locs cells slots ls C hW hz hS hl hc hn)))
end WPX

/-- an object of class ci -/
def OB (T : CT) (a ci : Nat) : Prop := 30 ≤ (T a).1 ∧ kC (T a).1 = ci ∧ (T a).1 < 80
/-- raw or finished -/
def OBr (T : CT) (a ci : Nat) : Prop := 30 ≤ (T a).1 ∧ kC (T a).1 = ci ∧ (T a).1 < 94
theorem OB.r {T : CT} {a ci : Nat} (h : OB T a ci) : OBr T a ci := ⟨h.1, h.2.1, by have := h.2.2; omega⟩
section TNH
variable {d : Nat} {M : MT} {pc : Nat} {T : CT} {σ : MS} {L : List (Nat × Value)} {st : List Value} {post : Option Value → CT → MS → Prop} {a : Nat}
theorem ovC_or {ci : Nat} {P0 : PH} (h : OBr T a ci) : ovC T σ P0 a = some (.inr (ci, cF ci σ a)) := by
  have e := ovC_o (σ := σ) (P0 := P0) ⟨h.1, h.2.2⟩
  rw [h.2.1] at e
  exact e
theorem ovC_ob {ci : Nat} {P0 : PH} (h : OB T a ci) : ovC T σ P0 a = some (.inr (ci, cF ci σ a)) := ovC_or h.r
theorem tn_getVr {ci i n ix N : Nat} {CN : String} {Tt : u_T} {r : Bool} (hd : decode M.2.1 pc = .ok (.getfield ix, 3)) (hq : vwCl[ci]? = some (CN, Tt, N)) (hlay : ∀ w ∈ u_ws CN Tt N, w ∈ pWW) (hk : i < N) (hlink : Cond.fieldLink M.1.cls ix (Tt i).1 (Tt i).2.1 (Tt i).2.2.1 ∈ pWW) (ha : OBr T a ci) (hr : (cR ci)[i]? = some r) (hn : cB ci + i = n) (kk : Tn d M (pc + 3) T σ L (vl r (σ.2.1 n a) :: st) post) : Tn d M pc T σ L (.ref a :: st) post := fun P0 sz hs => by
  obtain ⟨r2, T2, σ2, sz2, n9, w, hp⟩ := kk P0 sz hs
  exact ⟨r2, T2, σ2, sz2, n9, wp_get hd hq hlay hk hlink (ovC_or ha) (by rw [← hn] at w ⊢; exact cL_get hr) w, hp⟩
theorem tn_getV {ci i n ix N : Nat} {CN : String} {Tt : u_T} {r : Bool} (hd : decode M.2.1 pc = .ok (.getfield ix, 3)) (hq : vwCl[ci]? = some (CN, Tt, N)) (hlay : ∀ w ∈ u_ws CN Tt N, w ∈ pWW) (hk : i < N) (hlink : Cond.fieldLink M.1.cls ix (Tt i).1 (Tt i).2.1 (Tt i).2.2.1 ∈ pWW) (ha : OB T a ci) (hr : (cR ci)[i]? = some r) (hn : cB ci + i = n) (kk : Tn d M (pc + 3) T σ L (vl r (σ.2.1 n a) :: st) post) : Tn d M pc T σ L (.ref a :: st) post := tn_getVr hd hq hlay hk hlink ha.r hr hn kk
/-- a number is read -/
theorem tn_getI {ci i n ix N : Nat} {CN : String} {Tt : u_T} {t : Int} (hd : decode M.2.1 pc = .ok (.getfield ix, 3)) (hq : vwCl[ci]? = some (CN, Tt, N)) (hlay : ∀ w ∈ u_ws CN Tt N, w ∈ pWW) (hk : i < N) (hlink : Cond.fieldLink M.1.cls ix (Tt i).1 (Tt i).2.1 (Tt i).2.2.1 ∈ pWW) (ha : OB T a ci) (hr : (cR ci)[i]? = some false) (hn : cB ci + i = n) (ht : σ.2.1 n a = t) (kk : Tn d M (pc + 3) T σ L (.int (iI t) :: st) post) : Tn d M pc T σ L (.ref a :: st) post := tn_getV hd hq hlay hk hlink ha hr hn (by rw [ht]; exact kk)
/-- an address is read -/
theorem tn_getR {ci i n ix N x : Nat} {CN : String} {Tt : u_T} (hd : decode M.2.1 pc = .ok (.getfield ix, 3)) (hq : vwCl[ci]? = some (CN, Tt, N)) (hlay : ∀ w ∈ u_ws CN Tt N, w ∈ pWW) (hk : i < N) (hlink : Cond.fieldLink M.1.cls ix (Tt i).1 (Tt i).2.1 (Tt i).2.2.1 ∈ pWW) (ha : OB T a ci) (hr : (cR ci)[i]? = some true) (hn : cB ci + i = n) (ht : σ.2.1 n a = (x : Int)) (kk : Tn d M (pc + 3) T σ L (.ref x :: st) post) : Tn d M pc T σ L (.ref a :: st) post := tn_getV hd hq hlay hk hlink ha hr hn (by rw [vl_ref ht]; exact kk)
theorem tn_getN {ci i n ix N : Nat} {CN : String} {Tt : u_T} (hd : decode M.2.1 pc = .ok (.getfield ix, 3)) (hq : vwCl[ci]? = some (CN, Tt, N)) (hlay : ∀ w ∈ u_ws CN Tt N, w ∈ pWW) (hk : i < N) (hlink : Cond.fieldLink M.1.cls ix (Tt i).1 (Tt i).2.1 (Tt i).2.2.1 ∈ pWW) (ha : OB T a ci) (hr : (cR ci)[i]? = some true) (hn : cB ci + i = n) (ht : σ.2.1 n a < 0) (kk : Tn d M (pc + 3) T σ L (.null :: st) post) : Tn d M pc T σ L (.ref a :: st) post := tn_getV hd hq hlay hk hlink ha hr hn (by rw [vl_null ht]; exact kk)
theorem tn_putVr {ci i n ix N : Nat} {CN : String} {Tt : u_T} {r : Bool} {v : Int} {w0 : Value} {ty : FieldType} (ty0 : Nat → FieldType) (hty : ∀ k, k < N → parseFieldDescriptor (Tt k).2.2.1 = some (ty0 k)) (hnm : ∀ a, a < N → ∀ b, b < N → a ≠ b → (Tt a).2.1 ≠ (Tt b).2.1) (hd : decode M.2.1 pc = .ok (.putfield ix, 3)) (hq : vwCl[ci]? = some (CN, Tt, N)) (hlay : ∀ w ∈ u_ws CN Tt N, w ∈ pWW) (hk : i < N) (hlink : Cond.fieldLink M.1.cls ix (Tt i).1 (Tt i).2.1 (Tt i).2.2.1 ∈ pWW) (hfin : (Tt i).2.2.2 = false) (hds : parseFieldDescriptor (Tt i).2.2.1 = some ty) (hw : w0 = vl r v) (hnr : narrow ty w0 = w0) (hfit : fits ty w0 = true) (ha : OBr T a ci) (hr : (cR ci)[i]? = some r) (hn : cB ci + i = n) (kk : Tn d M (pc + 3) T (sA n a v σ) L st post) : Tn d M pc T σ L (w0 :: .ref a :: st) post := fun P0 sz hs => by
  obtain ⟨r2, T2, σ2, sz2, n9, w, hp⟩ := kk P0 sz hs
  refine ⟨r2, T2, σ2, sz2, n9, wp_put ty0 hty hnm hd hq hlay hk hlink hfin hds hnr hfit (ovC_or ha) ?_, hp⟩
  have e : (cF ci σ a).set i w0 = cF ci (sA n a v σ) a := by rw [hw, ← hn]; exact cL_set hr
  have n2 : n < 200 := by
    have h1 := cR_len ci
    have h2 := (List.getElem?_eq_some_iff.mp hr).1
    omega
  have e2 := ovC_sF (T := T) (σ := σ) (P0 := P0) (a := a) (v := v) (fs := (cF ci σ a).set i w0) ⟨ha.1, ha.2.2⟩ n2 (by rw [ha.2.1]; exact e)
  rw [ha.2.1] at e2
  rw [e2]
  exact w
theorem tn_putFr {ci i n ix N : Nat} {CN : String} {Tt : u_T} {r : Bool} {v : Int} {w0 : Value} {ty : FieldType} (ty0 : Nat → FieldType) (hty : ∀ k, k < N → parseFieldDescriptor (Tt k).2.2.1 = some (ty0 k)) (hnm : ∀ a, a < N → ∀ b, b < N → a ≠ b → (Tt a).2.1 ≠ (Tt b).2.1) (hd : decode M.2.1 pc = .ok (.putfield ix, 3)) (hq : vwCl[ci]? = some (CN, Tt, N)) (hlay : ∀ w ∈ u_ws CN Tt N, w ∈ pWW) (hk : i < N) (hlink : Cond.fieldLink M.1.cls ix (Tt i).1 (Tt i).2.1 (Tt i).2.2.1 ∈ pWW) (hfin : (Tt i).2.2.2 = true) (hdc : (Tt i).1 = M.1.cls) (hini : M.1.name = "<init>") (hds : parseFieldDescriptor (Tt i).2.2.1 = some ty) (hw : w0 = vl r v) (hnr : narrow ty w0 = w0) (hfit : fits ty w0 = true) (ha : OBr T a ci) (hr : (cR ci)[i]? = some r) (hn : cB ci + i = n) (kk : Tn d M (pc + 3) T (sA n a v σ) L st post) : Tn d M pc T σ L (w0 :: .ref a :: st) post := fun P0 sz hs => by
  obtain ⟨r2, T2, σ2, sz2, n9, w, hp⟩ := kk P0 sz hs
  refine ⟨r2, T2, σ2, sz2, n9, wp_putF ty0 hty hnm hd hq hlay hk hlink hfin hini hdc hds hnr hfit (ovC_or ha) ?_, hp⟩
  have e : (cF ci σ a).set i w0 = cF ci (sA n a v σ) a := by rw [hw, ← hn]; exact cL_set hr
  have n2 : n < 200 := by
    have h1 := cR_len ci
    have h2 := (List.getElem?_eq_some_iff.mp hr).1
    omega
  have e2 := ovC_sF (T := T) (σ := σ) (P0 := P0) (a := a) (v := v) (fs := (cF ci σ a).set i w0) ⟨ha.1, ha.2.2⟩ n2 (by rw [ha.2.1]; exact e)
  rw [ha.2.1] at e2
  rw [e2]
  exact w
theorem tn_putV {ci i n ix N : Nat} {CN : String} {Tt : u_T} {r : Bool} {v : Int} {w0 : Value} {ty : FieldType} (ty0 : Nat → FieldType) (hty : ∀ k, k < N → parseFieldDescriptor (Tt k).2.2.1 = some (ty0 k)) (hnm : ∀ a, a < N → ∀ b, b < N → a ≠ b → (Tt a).2.1 ≠ (Tt b).2.1) (hd : decode M.2.1 pc = .ok (.putfield ix, 3)) (hq : vwCl[ci]? = some (CN, Tt, N)) (hlay : ∀ w ∈ u_ws CN Tt N, w ∈ pWW) (hk : i < N) (hlink : Cond.fieldLink M.1.cls ix (Tt i).1 (Tt i).2.1 (Tt i).2.2.1 ∈ pWW) (hfin : (Tt i).2.2.2 = false) (hds : parseFieldDescriptor (Tt i).2.2.1 = some ty) (hw : w0 = vl r v) (hnr : narrow ty w0 = w0) (hfit : fits ty w0 = true) (ha : OB T a ci) (hr : (cR ci)[i]? = some r) (hn : cB ci + i = n) (kk : Tn d M (pc + 3) T (sA n a v σ) L st post) : Tn d M pc T σ L (w0 :: .ref a :: st) post := tn_putVr ty0 hty hnm hd hq hlay hk hlink hfin hds hw hnr hfit ha.r hr hn kk
/-- numbers of arrays -/
theorem tn_iald {z v : Int} (hd : decode M.2.1 pc = .ok (.iaload, 1)) (ha : IA T a) (h0 : 0 ≤ z) (h1 : z < ((T a).2 : Int)) (hn : (T a).2 ≤ 2147483647) (hv : σ.2.1 (1000 + a) z = v) (kk : Tn d M (pc + 1) T σ L (.int (iI v) :: st) post) : Tn d M pc T σ L (.int (iI z) :: .ref a :: st) post := fun P0 sz hs => by
  obtain ⟨r, T2, σ2, sz2, n9, w, hp⟩ := kk P0 sz hs
  refine ⟨r, T2, σ2, sz2, n9, wp_iald hd (ovC_i ha) (iI_in h0 h1 hn) ?_, hp⟩
  rw [iI_nat h0 (by omega), show ((z.toNat : Nat) : Int) = z by omega, hv]
  exact w
theorem tn_bald {z v : Int} (hd : decode M.2.1 pc = .ok (.baload, 1)) (ha : (T a).1 = 2) (h0 : 0 ≤ z) (h1 : z < ((T a).2 : Int)) (hn : (T a).2 ≤ 2147483647) (hv : σ.2.1 (1000 + a) z = v) (kk : Tn d M (pc + 1) T σ L (.int (iI v) :: st) post) : Tn d M pc T σ L (.int (iI z) :: .ref a :: st) post := fun P0 sz hs => by
  obtain ⟨r, T2, σ2, sz2, n9, w, hp⟩ := kk P0 sz hs
  refine ⟨r, T2, σ2, sz2, n9, wp_bald hd (ovC_b ha) (iI_in h0 h1 hn) ?_, hp⟩
  rw [iI_nat h0 (by omega), show ((z.toNat : Nat) : Int) = z by omega, hv]
  exact w
theorem tn_lald {z : Int} {v : Int64} (hd : decode M.2.1 pc = .ok (.laload, 1)) (ha : (T a).1 = 3) (h0 : 0 ≤ z) (h1 : z < ((T a).2 : Int)) (hn : (T a).2 ≤ 2147483647) (hv : σ.2.2 a z = v) (kk : Tn d M (pc + 1) T σ L (.long v :: st) post) : Tn d M pc T σ L (.int (iI z) :: .ref a :: st) post := fun P0 sz hs => by
  obtain ⟨r, T2, σ2, sz2, n9, w, hp⟩ := kk P0 sz hs
  refine ⟨r, T2, σ2, sz2, n9, wp_lald hd (ovC_l ha) (iI_in h0 h1 hn) ?_, hp⟩
  rw [iI_nat h0 (by omega), show ((z.toNat : Nat) : Int) = z by omega, hv]
  exact w
theorem tn_aald {z : Int} {x : Nat} (hd : decode M.2.1 pc = .ok (.aaload, 1)) (ha : (T a).1 = 4 ∨ (T a).1 = 5) (h0 : 0 ≤ z) (h1 : z < ((T a).2 : Int)) (hn : (T a).2 ≤ 2147483647) (hv : σ.2.1 (1000 + a) z = (x : Int)) (kk : Tn d M (pc + 1) T σ L (.ref x :: st) post) : Tn d M pc T σ L (.int (iI z) :: .ref a :: st) post := fun P0 sz hs => by
  obtain ⟨r, T2, σ2, sz2, n9, w, hp⟩ := kk P0 sz hs
  refine ⟨r, T2, σ2, sz2, n9, wp_aald hd (ovC_q (by omega)) (iI_in h0 h1 hn) ?_, hp⟩
  rw [iI_nat h0 (by omega), show ((z.toNat : Nat) : Int) = z by omega]
  have e : va_rf (rfO (σ.2.1 (1000 + a) z)) = .ref x := vl_ref hv
  rw [e]
  exact w
theorem tn_alen {x : Nat × vp_A} (hd : decode M.2.1 pc = .ok (.arraylength, 1)) (ha : ∀ P0, ovC T σ P0 a = some (.inl x)) (hx : x.2.1 = (T a).2) (kk : Tn d M (pc + 1) T σ L (.int (iI ((T a).2 : Int)) :: st) post) : Tn d M pc T σ L (.ref a :: st) post := fun P0 sz hs => by
  obtain ⟨r, T2, σ2, sz2, n9, w, hp⟩ := kk P0 sz hs
  refine ⟨r, T2, σ2, sz2, n9, wp_alen hd (ha P0) ?_ w, hp⟩
  rw [hx]
  exact (Int32.ofInt_eq_ofNat).symm
theorem tn_iast {z v : Int} (hd : decode M.2.1 pc = .ok (.iastore, 1)) (ha : IA T a) (h0 : 0 ≤ z) (h1 : z < ((T a).2 : Int)) (hn : (T a).2 ≤ 2147483647) (kk : Tn d M (pc + 1) T (sA (1000 + a) z v σ) L st post) : Tn d M pc T σ L (.int (iI v) :: .int (iI z) :: .ref a :: st) post := fun P0 sz hs => by
  obtain ⟨r, T2, σ2, sz2, n9, w, hp⟩ := kk P0 sz hs
  refine ⟨r, T2, σ2, sz2, n9, wp_iast hd (ovC_i ha) (iI_in h0 h1 hn) ?_, hp⟩
  rw [iI_nat h0 (by omega), ovC_sI ha h0]
  exact w
theorem tn_bast {z v : Int} {x : Int32} (hd : decode M.2.1 pc = .ok (.bastore, 1)) (ha : (T a).1 = 2) (h0 : 0 ≤ z) (h1 : z < ((T a).2 : Int)) (hn : (T a).2 ≤ 2147483647) (hv : vp_nar .byte x = iI v) (kk : Tn d M (pc + 1) T (sA (1000 + a) z v σ) L st post) : Tn d M pc T σ L (.int x :: .int (iI z) :: .ref a :: st) post := fun P0 sz hs => by
  obtain ⟨r, T2, σ2, sz2, n9, w, hp⟩ := kk P0 sz hs
  refine ⟨r, T2, σ2, sz2, n9, wp_bast hd (ovC_b ha) (iI_in h0 h1 hn) ?_, hp⟩
  rw [hv, iI_nat h0 (by omega), ovC_sB ha h0]
  exact w
theorem tn_last {z : Int} {v : Int64} (hd : decode M.2.1 pc = .ok (.lastore, 1)) (ha : (T a).1 = 3) (h0 : 0 ≤ z) (h1 : z < ((T a).2 : Int)) (hn : (T a).2 ≤ 2147483647) (kk : Tn d M (pc + 1) T (sJ a z v σ) L st post) : Tn d M pc T σ L (.long v :: .int (iI z) :: .ref a :: st) post := fun P0 sz hs => by
  obtain ⟨r, T2, σ2, sz2, n9, w, hp⟩ := kk P0 sz hs
  refine ⟨r, T2, σ2, sz2, n9, wp_last hd (ovC_l ha) (iI_in h0 h1 hn) ?_, hp⟩
  rw [iI_nat h0 (by omega), ovC_sL ha h0]
  exact w
theorem tn_iret {v : Int32} (hr : M.2.2.2 = some .int) (hd : decode M.2.1 pc = .ok (.ireturn, 1)) (hp : post (some (.int v)) T σ) : Tn d M pc T σ L [.int v] post := fun _ _ hs => ⟨_, T, σ, _, 0, wp_iret hr hd, Gd.rfl hs, hp⟩
theorem tn_zret {v : Int} (hr : M.2.2.2 = some .boolean) (hv : v = 0 ∨ v = 1) (hd : decode M.2.1 pc = .ok (.ireturn, 1)) (hp : post (some (.int (iI v))) T σ) : Tn d M pc T σ L [.int (iI v)] post := fun _ _ hs => ⟨_, T, σ, _, 0, wp_zret hr (by rcases hv with rfl | rfl <;> rfl) hd, Gd.rfl hs, hp⟩
theorem tn_vret (hr : M.2.2.2 = none) (hd : decode M.2.1 pc = .ok (.return_, 1)) (hp : post none T σ) : Tn d M pc T σ L [] post := fun _ _ hs => ⟨_, T, σ, _, 0, wp_vret hr hd, Gd.rfl hs, hp⟩
theorem tn_lret {v : Int64} (hr : M.2.2.2 = some .long) (hd : decode M.2.1 pc = .ok (.lreturn, 1)) (hp : post (some (.long v)) T σ) : Tn d M pc T σ L [.long v] post := fun _ _ hs => ⟨_, T, σ, _, 0, wp_lret hr hd, Gd.rfl hs, hp⟩
theorem tn_aret {v : Value} {rt : FieldType} (hr : M.2.2.2 = some rt) (hrt : (∃ n, rt = .object n) ∨ ∃ t, rt = .array t) (hv : v = .null ∨ ∃ a, v = .ref a) (hd : decode M.2.1 pc = .ok (.areturn, 1)) (hp : post (some v) T σ) : Tn d M pc T σ L [v] post := fun _ _ hs => ⟨_, T, σ, _, 0, wp_aret hr hrt hv hd, Gd.rfl hs, hp⟩
theorem tn_tableOut {dflt lo hi : Int} {offs : Array Int} {len : Nat} {x : Int} {tgt : Nat} (hd : decode M.2.1 pc = .ok (.tableswitch dflt lo hi offs, len)) (hx : inR x) (h : x < lo ∨ hi < x) (ht : (pc : Int) + dflt = (tgt : Int)) (k : Tn d M tgt T σ L st post) : Tn d M pc T σ L (.int (iI x) :: st) post := fun P0 sz hs => by
  obtain ⟨r, T2, σ2, sz2, n9, w, hp⟩ := k P0 sz hs
  exact ⟨r, T2, σ2, sz2, n9, wp_tableOut hd (by rw [iI_toInt hx]; exact h) ht w, hp⟩
theorem tn_tableIn {dflt lo hi : Int} {offs : Array Int} {len : Nat} {x off : Int} {tgt : Nat} (hd : decode M.2.1 pc = .ok (.tableswitch dflt lo hi offs, len)) (hx : inR x) (h1 : ¬ x < lo) (h2 : ¬ hi < x) (ho : offs[(x - lo).toNat]? = some off) (ht : (pc : Int) + off = (tgt : Int)) (k : Tn d M tgt T σ L st post) : Tn d M pc T σ L (.int (iI x) :: st) post := fun P0 sz hs => by
  obtain ⟨r, T2, σ2, sz2, n9, w, hp⟩ := k P0 sz hs
  exact ⟨r, T2, σ2, sz2, n9, wp_tableIn hd (by rw [iI_toInt hx]; exact h1) (by rw [iI_toInt hx]; exact h2) (by rw [iI_toInt hx]; exact ho) ht w, hp⟩
theorem tn_ifnonnull {x : Nat} {off : Int} {tgt : Nat} (hd : decode M.2.1 pc = .ok (.ifnonnull off, 3)) (ht : (pc : Int) + off = (tgt : Int)) (k : Tn d M tgt T σ L st post) : Tn d M pc T σ L (.ref x :: st) post := fun P0 sz hs => by
  obtain ⟨r, T2, σ2, sz2, n9, w, hp⟩ := k P0 sz hs
  exact ⟨r, T2, σ2, sz2, n9, wp_ifnonnull hd ht w, hp⟩
theorem tn_ifnull {x : Nat} {off : Int} (hd : decode M.2.1 pc = .ok (.ifnull off, 3)) (k : Tn d M (pc + 3) T σ L st post) : Tn d M pc T σ L (.ref x :: st) post := fun P0 sz hs => by
  obtain ⟨r, T2, σ2, sz2, n9, w, hp⟩ := k P0 sz hs
  exact ⟨r, T2, σ2, sz2, n9, wp_ifnull hd w, hp⟩
theorem tn_ifnullN {off : Int} {tgt : Nat} (hd : decode M.2.1 pc = .ok (.ifnull off, 3)) (ht : (pc : Int) + off = (tgt : Int)) (k : Tn d M tgt T σ L st post) : Tn d M pc T σ L (.null :: st) post := fun P0 sz hs => by
  obtain ⟨r, T2, σ2, sz2, n9, w, hp⟩ := k P0 sz hs
  exact ⟨r, T2, σ2, sz2, n9, wp_ifnullN hd ht w, hp⟩
theorem tn_ifnonnullN {off : Int} (hd : decode M.2.1 pc = .ok (.ifnonnull off, 3)) (k : Tn d M (pc + 3) T σ L st post) : Tn d M pc T σ L (.null :: st) post := fun P0 sz hs => by
  obtain ⟨r, T2, σ2, sz2, n9, w, hp⟩ := k P0 sz hs
  exact ⟨r, T2, σ2, sz2, n9, wp_ifnonnullN hd w, hp⟩
theorem tn_mmax {ix : Nat} {x y : Int} (hd : decode M.2.1 pc = .ok (.invokestatic ix, 3)) (h1 : Cond.methodLink M.1.cls ix Lib.Math.max.name ∈ pWW) (h2 : Cond.static Lib.Math.max.name ∈ pWW) (h3 : Cond.initialized "java/lang/Math" ∈ pWW) (h4 : Cond.code Lib.Math.max.name Lib.Math.max.code 2 (some .int) ∈ pWW) (hd1 : 0 < d) (hcat : (st.map fun v => v.category).sum ≤ 8) (hx : inR x) (hy : inR y) (kk : ∀ z, (x ≤ z ∧ y ≤ z) ∧ (z = x ∨ z = y) → Tn d M (pc + 3) T σ L (.int (iI z) :: st) post) : Tn d M pc T σ L (.int (iI y) :: .int (iI x) :: st) post := fun P0 sz hs => by
  by_cases h : x < y
  · obtain ⟨r, T2, σ2, sz2, n9, w, hp⟩ := kk y (by omega) P0 sz hs
    exact ⟨r, T2, σ2, sz2, n9, wp_mmax hd h1 h2 h3 h4 hd1 hcat hp.1.1 (by rw [if_pos ((iI_lt hx hy).mpr h)]; exact w), hp⟩
  · obtain ⟨r, T2, σ2, sz2, n9, w, hp⟩ := kk x (by omega) P0 sz hs
    exact ⟨r, T2, σ2, sz2, n9, wp_mmax hd h1 h2 h3 h4 hd1 hcat hp.1.1 (by rw [if_neg (fun q => h ((iI_lt hx hy).mp q))]; exact w), hp⟩
theorem tn_mmin {ix : Nat} {x y : Int} (hd : decode M.2.1 pc = .ok (.invokestatic ix, 3)) (h1 : Cond.methodLink M.1.cls ix Lib.Math.min.name ∈ pWW) (h2 : Cond.static Lib.Math.min.name ∈ pWW) (h3 : Cond.initialized "java/lang/Math" ∈ pWW) (h4 : Cond.code Lib.Math.min.name Lib.Math.min.code 2 (some .int) ∈ pWW) (hd1 : 0 < d) (hcat : (st.map fun v => v.category).sum ≤ 8) (hx : inR x) (hy : inR y) (kk : ∀ z, (z ≤ x ∧ z ≤ y) ∧ (z = x ∨ z = y) → Tn d M (pc + 3) T σ L (.int (iI z) :: st) post) : Tn d M pc T σ L (.int (iI y) :: .int (iI x) :: st) post := fun P0 sz hs => by
  by_cases h : y < x
  · obtain ⟨r, T2, σ2, sz2, n9, w, hp⟩ := kk y (by omega) P0 sz hs
    exact ⟨r, T2, σ2, sz2, n9, wp_mmin hd h1 h2 h3 h4 hd1 hcat hp.1.1 (by rw [if_pos ((iI_lt hy hx).mpr h)]; exact w), hp⟩
  · obtain ⟨r, T2, σ2, sz2, n9, w, hp⟩ := kk x (by omega) P0 sz hs
    exact ⟨r, T2, σ2, sz2, n9, wp_mmin hd h1 h2 h3 h4 hd1 hcat hp.1.1 (by rw [if_neg (fun q => h ((iI_lt hy hx).mp q))]; exact w), hp⟩
/-- calls -/
theorem tn_callV {M' : MT} {ix ci N : Nat} {CN : String} {Tt : u_T} {L1 : List (Nat × Value)} {rest As : List Value} {post1 : Option Value → CT → MS → Prop} (hd : decode M.2.1 pc = .ok (.invokevirtual ix, 3)) (hM : pOk M') (hin : Cond.instanceMethod M'.1 ∈ pWW) (hse : Cond.selects M'.1.cls M'.1 M'.1 ∈ pWW) (hlink : Cond.methodLink M.1.cls ix M'.1 ∈ pWW) (hnp : (parseMethodDescriptor M'.1.desc).map (fun d => d.parameters.length) = some As.length) (hq : vwCl[ci]? = some (CN, Tt, N)) (hqc : CN = M'.1.cls) (ha : OB T a ci) (hL : lv_args 0 (.ref a :: As) = L1) (hlen : (lg_sl (.ref a :: As)).length ≤ M'.2.2.1) (hcat : (rest.map fun v => v.category).sum ≤ 8) {st : List Value} (hst0 : st = As.reverse ++ .ref a :: rest) (h1 : Tn d M' 0 T σ L1 [] post1) (h2 : ∀ r T1 σ1, GT T T1 → post1 r T1 σ1 → Tn (d + 1) M (pc + 3) T1 σ1 L (r.toList ++ rest) post) : Tn (d + 1) M pc T σ L st post := fun P0 sz hs => by
  obtain ⟨r1, T1, σ1, s1, n1, w1, g1, p1⟩ := h1 P0 sz hs
  obtain ⟨r2, T2, σ2, s2, n2, w2, g2, p2⟩ := h2 r1 T1 σ1 (g1.gt hs) p1 P0 s1 g1.2.1
  exact ⟨r2, T2, σ2, s2, n1 + n2, wp_callV (ci := ci) (q := (CN, Tt, N)) (o1 := (r1, ovC T1 σ1 P0, s1, n1)) (o2 := (r2, ovC T2 σ2 P0, s2, n2)) hd hM hin hse hlink hnp hq hqc (ovC_ob ha) hL hlen hcat g1.1 g2.1 hst0 w1 w2, g1.trans g2, p2⟩
theorem tn_callVN {M' : MT} {ix ci N : Nat} {host CN : String} {Tt : u_T} {L1 : List (Nat × Value)} {rest As : List Value} {post1 : Option Value → CT → MS → Prop} (hd : decode M.2.1 pc = .ok (.invokevirtual ix, 3)) (hM : pOk M') (hin : Cond.instanceMethod M'.1 ∈ pWW) (hse : Cond.selects M'.1.cls M'.1 M'.1 ∈ pWW) (hlink : (M.1.cls, ix, M'.1, host) ∈ nst_M) (hnp : (parseMethodDescriptor M'.1.desc).map (fun d => d.parameters.length) = some As.length) (hq : vwCl[ci]? = some (CN, Tt, N)) (hqc : CN = M'.1.cls) (ha : OB T a ci) (hL : lv_args 0 (.ref a :: As) = L1) (hlen : (lg_sl (.ref a :: As)).length ≤ M'.2.2.1) (hcat : (rest.map fun v => v.category).sum ≤ 8) {st : List Value} (hst0 : st = As.reverse ++ .ref a :: rest) (h1 : Tn d M' 0 T σ L1 [] post1) (h2 : ∀ r T1 σ1, GT T T1 → post1 r T1 σ1 → Tn (d + 1) M (pc + 3) T1 σ1 L (r.toList ++ rest) post) : Tn (d + 1) M pc T σ L st post := fun P0 sz hs => by
  obtain ⟨r1, T1, σ1, s1, n1, w1, g1, p1⟩ := h1 P0 sz hs
  obtain ⟨r2, T2, σ2, s2, n2, w2, g2, p2⟩ := h2 r1 T1 σ1 (g1.gt hs) p1 P0 s1 g1.2.1
  exact ⟨r2, T2, σ2, s2, n1 + n2, wp_callVN (ci := ci) (q := (CN, Tt, N)) (o1 := (r1, ovC T1 σ1 P0, s1, n1)) (o2 := (r2, ovC T2 σ2 P0, s2, n2)) hd hM hin hse hlink hnp hq hqc (ovC_ob ha) hL hlen hcat g1.1 g2.1 hst0 w1 w2, g1.trans g2, p2⟩
theorem tn_callS {M' : MT} {ix : Nat} {L1 : List (Nat × Value)} {rest As : List Value} {post1 : Option Value → CT → MS → Prop} (hd : decode M.2.1 pc = .ok (.invokestatic ix, 3)) (hM : pOk M') (hstt : Cond.static M'.1 ∈ pWW) (hlink : Cond.methodLink M.1.cls ix M'.1 ∈ pWW) (hnp : (parseMethodDescriptor M'.1.desc).map (fun d => d.parameters.length) = some As.length) (hL : lv_args 0 As = L1) (hlen : (lg_sl As).length ≤ M'.2.2.1) (hcat : (rest.map fun v => v.category).sum ≤ 8) {st : List Value} (hst0 : st = As.reverse ++ rest) (h1 : Tn d M' 0 T σ L1 [] post1) (h2 : ∀ r T1 σ1, GT T T1 → post1 r T1 σ1 → Tn (d + 1) M (pc + 3) T1 σ1 L (r.toList ++ rest) post) : Tn (d + 1) M pc T σ L st post := fun P0 sz hs => by
  obtain ⟨r1, T1, σ1, s1, n1, w1, g1, p1⟩ := h1 P0 sz hs
  obtain ⟨r2, T2, σ2, s2, n2, w2, g2, p2⟩ := h2 r1 T1 σ1 (g1.gt hs) p1 P0 s1 g1.2.1
  exact ⟨r2, T2, σ2, s2, n1 + n2, wp_callS (o1 := (r1, ovC T1 σ1 P0, s1, n1)) (o2 := (r2, ovC T2 σ2 P0, s2, n2)) hd hM hstt hlink hnp hL hlen hcat g1.1 g2.1 hst0 w1 w2, g1.trans g2, p2⟩
theorem tn_callSN {M' : MT} {ix : Nat} {host : String} {L1 : List (Nat × Value)} {rest As : List Value} {post1 : Option Value → CT → MS → Prop} (hd : decode M.2.1 pc = .ok (.invokestatic ix, 3)) (hM : pOk M') (hstt : Cond.static M'.1 ∈ pWW) (hlink : (M.1.cls, ix, M'.1, host) ∈ nst_M) (hnp : (parseMethodDescriptor M'.1.desc).map (fun d => d.parameters.length) = some As.length) (hL : lv_args 0 As = L1) (hlen : (lg_sl As).length ≤ M'.2.2.1) (hcat : (rest.map fun v => v.category).sum ≤ 8) {st : List Value} (hst0 : st = As.reverse ++ rest) (h1 : Tn d M' 0 T σ L1 [] post1) (h2 : ∀ r T1 σ1, GT T T1 → post1 r T1 σ1 → Tn (d + 1) M (pc + 3) T1 σ1 L (r.toList ++ rest) post) : Tn (d + 1) M pc T σ L st post := fun P0 sz hs => by
  obtain ⟨r1, T1, σ1, s1, n1, w1, g1, p1⟩ := h1 P0 sz hs
  obtain ⟨r2, T2, σ2, s2, n2, w2, g2, p2⟩ := h2 r1 T1 σ1 (g1.gt hs) p1 P0 s1 g1.2.1
  exact ⟨r2, T2, σ2, s2, n1 + n2, wp_callSN (o1 := (r1, ovC T1 σ1 P0, s1, n1)) (o2 := (r2, ovC T2 σ2 P0, s2, n2)) hd hM hstt hlink hnp hL hlen hcat g1.1 g2.1 hst0 w1 w2, g1.trans g2, p2⟩
theorem tn_sub {L' : List (Nat × Value)} (ks : List Nat) (h : lv_pick L ks = L') (k : Tn d M pc T σ L' st post) : Tn d M pc T σ L st post := fun P0 sz hs => by
  obtain ⟨r, T2, σ2, sz2, n9, w, hp⟩ := k P0 sz hs
  exact ⟨r, T2, σ2, sz2, n9, wp_sub ks h w, hp⟩
theorem Tn.mono {post2 : Option Value → CT → MS → Prop} (k : Tn d M pc T σ L st post) (h : ∀ r t s, post r t s → post2 r t s) : Tn d M pc T σ L st post2 := fun P0 sz hs => by
  obtain ⟨r, T2, σ2, sz2, n9, w, hp⟩ := k P0 sz hs
  exact ⟨r, T2, σ2, sz2, n9, w, hp.1, h _ _ _ hp.2⟩
/-- a number that may wrap -/
theorem tn_any {x : Int} (kk : ∀ z, inR z → Tn d M pc T σ L (.int (iI z) :: st) post) : Tn d M pc T σ L (.int (iI x) :: st) post := by
  rw [← iw_eq x]
  exact kk _ (iw_rng x)
theorem tn_anyI {x : Int32} (kk : ∀ z, inR z → Tn d M pc T σ L (.int (iI z) :: st) post) : Tn d M pc T σ L (.int x :: st) post := by
  rw [← iI_self x]
  exact kk _ (inR_toInt x)
end TNH

