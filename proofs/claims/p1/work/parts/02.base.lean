/-! what every contract here starts from and ends with; arrays and objects that nobody asks for again are let go at once -/
def nst_M : List (String × Nat × MethodName × String) := [(RX5, 11, yX9_init, "LineKeeper"), (RX5, 46, yX1_init, "LineKeeper"), (RX11, 31, yX3_init, "LineKeeper"), (RX11, 38, yX10_init, "LineKeeper"), (RX11, 49, yX6_init, "LineKeeper"), (RX11, 77, yX1_init, "LineKeeper"), (RX9, 51, yX11_put, "LineKeeper")]
def nst_I (U : State) : Prop := (Cond.arrayOver (.array .int)).before #[] U = true
theorem nst_I.moved {u U : State} (hvm : u.vm.Alike U.vm) (h : nst_I u) : nst_I U := by
  obtain ⟨comp, c, k, h1, h2, h3, h4, h5⟩ := arrayOverA_spec h
  obtain ⟨k', hk', he⟩ := hvm.2.2 _ _ h3
  have hi : (U.vm.classes.findIdx? fun (x : Class) => match x.kind with | .array component _ => component == comp | _ => false) = some c := by
    rw [hvm.findIdx?_eq _ (fun _ => rfl)]
    exact h2
  have hkind : k'.kind = .array comp (.array .int) := by rw [he]; exact h4
  have f1 : U.vm.findClass (FieldType.array .int).toString = some comp := by rw [hvm.findClass]; exact h1
  have f2 : U.vm.findClass ("[" ++ (FieldType.array .int).toString) = some c := by rw [hvm.findClass]; exact h5
  unfold nst_I Cond.before Cond.holds
  simp only [Cond.value]
  rw [f1, Option.bind_some]
  refine (congrArg (fun o : Option Nat => (o.bind (fun c => (U.vm.classes[c]?).map fun (k : Class) => match k.kind with | .array _ ty => decide (ty = FieldType.array .int) && decide (U.vm.findClass ("[" ++ (FieldType.array .int).toString) = some c) | _ => false) == some true)) hi).trans ?_
  simp [hk', hkind, f2]
def nst (U : State) : Prop := (∀ q ∈ nst_M, va_Nw (.methodLinkNest q.1 q.2.1 q.2.2.1 q.2.2.2) U) ∧ va_AO "LineKeeper$Code" U ∧ nst_I U
theorem nst.same {u U : State} (h : u.vm = U.vm) (hn : nst u) : nst U := ⟨fun q hq => va_Nw.same rfl h (hn.1 q hq), va_AO.moved (by rw [h]; exact Vm.Alike.refl _) hn.2.1, nst_I.moved (by rw [h]; exact Vm.Alike.refl _) hn.2.2⟩
theorem nst.warm {s U : State} (hW : s.WarmedH U.vm) (hn : nst s) : nst U := ⟨fun q hq => va_Nw.warmM hW (hn.1 q hq), va_AO.moved hW.alike hn.2.1, nst_I.moved hW.alike hn.2.2⟩
abbrev vx_pre (dC : Nat → ClassId) (dI : Nat → Nat → Nat) (ws : va_W) (tys : List (ClassId × FieldType)) (sz : Nat) : State → Prop := fun U => U.heap.size = sz ∧ va_P (dC, dI) vwCl ws U.heap ∧ va_K (dC, dI) vwCl tys U ∧ va_D (fun _ => True) ws ∧ nst U
abbrev vx_B (dC : Nat → ClassId) (dI : Nat → Nat → Nat) (A : Nat → Prop) (ws : va_W) (tys : List (ClassId × FieldType)) (t : State) : Prop := va_P (dC, dI) vwCl ws t.heap ∧ va_K (dC, dI) vwCl tys t ∧ va_D A ws
theorem vx_blind {dC : Nat → ClassId} {dI : Nat → Nat → Nat} {av : List Value} {ws : va_W} {tys : List (ClassId × FieldType)} {sz : Nat} : FrameBlind (va_Pc av (vx_pre dC dI ws tys sz)) := by
  intro a U g mk q
  obtain ⟨q0, q1, qP, qK, qD, qN⟩ := q
  exact ⟨q0, q1, qP, va_K.moved (u := U) (U := U.calling g mk a) (Vm.Alike.refl U.vm) qK, qD, nst.same (u := U) (U := U.calling g mk a) rfl qN⟩
theorem vx_preS {dC : Nat → ClassId} {dI : Nat → Nat → Nat} {A : Nat → Prop} {av : List Value} {ws : va_W} {tys : List (ClassId × FieldType)} {s : State} {H : Heap} (hP : va_P (dC, dI) vwCl ws H) (hK : va_K (dC, dI) vwCl tys s) (hD : va_D A ws) (hN : nst s) : PreS s H (va_Pc av (vx_pre dC dI ws tys H.size)) av :=
  ⟨vx_blind, fun U hU hW => ⟨rfl, by rw [hU], by rw [hU]; exact hP, va_K.moved hW.alike hK, hD.weaken (fun _ _ _ _ => trivial), nst.warm hW hN⟩⟩
theorem vx_preV {dC : Nat → ClassId} {dI : Nat → Nat → Nat} {A : Nat → Prop} {As : List Value} {ws : va_W} {tys : List (ClassId × FieldType)} {s : State} {H : Heap} {b q0 ci : Nat} {q : vw_C} {fs : List Value} (hP : va_P (dC, dI) vwCl ws H) (hK : va_K (dC, dI) vwCl tys s) (hD : va_D A ws) (hN : nst s) (hc : vwCl[ci]? = some q) (he : ws[q0]? = some (b, .inr (ci, fs))) : PreV s H q.1 b (va_Pc (.ref b :: As) (vx_pre dC dI ws tys H.size)) As :=
  ⟨vx_blind, va_recv hK hP hc he, fun U hU hW => ⟨rfl, by rw [hU], by rw [hU]; exact hP, va_K.moved hW.alike hK, hD.weaken (fun _ _ _ _ => trivial), nst.warm hW hN⟩⟩
theorem vx_Pl {D : va_G} {cl : List vw_C} {ws w2 : va_W} {H : Heap} (h : va_P D cl (ws ++ w2) H) : va_P D cl ws H := fun k q hk => h k q (by rw [List.getElem?_append_left (List.getElem?_eq_some_iff.mp hk).1]; exact hk)
theorem vx_Dl {A : Nat → Prop} {ws w2 : va_W} (h : va_D A (ws ++ w2)) : va_D A ws := ⟨fun i j p q hi hj => h.1 i j p q (by rw [List.getElem?_append_left (List.getElem?_eq_some_iff.mp hi).1]; exact hi) (by rw [List.getElem?_append_left (List.getElem?_eq_some_iff.mp hj).1]; exact hj), fun k q hk => h.2 k q (by rw [List.getElem?_append_left (List.getElem?_eq_some_iff.mp hk).1]; exact hk)⟩
section VXW
variable {p : Program} {l : Launch} {e : Env} {R : Room} {s : State} {m : MethodId} {args : Array Value} {below : List Frame} {meth : Method} {c : Code} {H : Heap} {locs : List Loc} {cells slots : Nat} {Q : State → Prop}
variable {cc : ByteArray} {pc : Nat} {ls : Array Slot} {rest : List Value} {D : va_G} {cl : List vw_C} {A : Nat → Prop} {tys : List (ClassId × FieldType)} {ws : va_W} {H0 : Heap}
theorem vx_topc {x v : Int32} (hv : x = v) (k : W p l e R s m args below meth c H locs cells slots Q (F0 m pc ls (.int v :: rest))) : W p l e R s m args below meth c H locs cells slots Q (F0 m pc ls (.int x :: rest)) := by rw [hv]; exact k
theorem vx_topv {x v : Value} (hv : x = v) (k : W p l e R s m args below meth c H locs cells slots Q (F0 m pc ls (v :: rest))) : W p l e R s m args below meth c H locs cells slots Q (F0 m pc ls (x :: rest)) := by rw [hv]; exact k
/-- a new array that is let go -/
theorem vx_newa (hexec : p.tables.exec = Jvm.exec) (hb : c.code = cc) {atype : ArrayType} (harr : (Cond.arrayClass (newarray.typeOf atype)).before args s = true) {ty : FieldType} (hty : newarray.typeOf atype = ty) (hK : va_K D cl tys s) (hP : va_P D cl ws H) (hD : va_D A ws) (hS : va_S A H0 H locs) (hA : ∀ q, H0.size ≤ q → A q)
    {n : Int32} {N' : Nat} {a0 : vp_A} (ha : ∀ cA : ClassId, vp_cell cA a0 = arrV cA N' (fun _ => defaultValue ty)) (hn : ¬ n < 0) (hN : n.toNatClampNeg = N') (hbytes : N' * componentBytes ty ≤ 536870912) (hcells : cells + 1 ≤ R.cells) (hslots : slots + N' ≤ R.slots) (hdg : decode cc pc = .ok (.newarray atype, 2))
    (kk : ∀ (q : Nat) (H1 : Heap), va_P D cl ws H1 → va_D A ws → va_S A H0 H1 locs → W p l e R s m args below meth c H1 locs (cells + 1) (slots + N') Q (F0 m (pc + 2) ls (.ref q :: rest))) : W p l e R s m args below meth c H locs cells slots Q (F0 m pc ls (.int n :: rest)) :=
  va_newa hexec hb harr hty hK hP hD hS hA ha hn hN hbytes hcells hslots hdg (fun q _ H1 _ hP hD hS => kk q H1 (vx_Pl hP) (vx_Dl hD) hS)
/-- a new array of arrays that is let go -/
theorem vx_newA (hexec : p.tables.exec = Jvm.exec) (hb : c.code = cc) {own : String} {index : Nat} {t : FieldType} (hown : s.vm.findClass own = some m.cls) (hclink : (Cond.classLink own index (FieldType.array t).toString).before args s = true) (hover : (Cond.arrayOver (.array t)).before args s = true) (hP : va_P D cl ws H) (hD : va_D A ws) (hS : va_S A H0 H locs)
    {n : Int32} {N' : Nat} (hn : ¬ n < 0) (hN : n.toNatClampNeg = N') (hbytes : N' * 4 ≤ 536870912) (hcells : cells + 1 ≤ R.cells) (hslots : slots + N' ≤ R.slots) (hdg : decode cc pc = .ok (.anewarray index, 3))
    (kk : ∀ (q : Nat) (H1 : Heap), va_P D cl ws H1 → va_D A ws → va_S A H0 H1 locs → W p l e R s m args below meth c H1 locs (cells + 1) (slots + N') Q (F0 m (pc + 3) ls (.ref q :: rest))) : W p l e R s m args below meth c H locs cells slots Q (F0 m pc ls (.int n :: rest)) := by
  subst hN
  refine W.anewA (t := t) hexec hb hown hclink hover rfl hdg rfl hn hbytes hcells hslots fun cA kA comp f1 f2 f3 f4 => ?_
  generalize hH1 : H.push ({ cls := cA, slots := Array.replicate n.toNatClampNeg .null, vm := .none } : Cell) = H1
  have z1 : H1.size = H.size + 1 := by rw [← hH1, Array.size_push]
  have o1 : ∀ q : Nat, q < H.size → H1[q]? = H[q]? := fun q hq => by rw [← hH1, Array.getElem?_push, if_neg (Nat.ne_of_lt hq)]
  exact kk H.size H1 (hP.kept (fun k x hx => o1 x.1 ((hP k x hx).lt))) hD ⟨Nat.le_trans hS.1 (by omega), fun x h1 h2 => (o1 x (Nat.lt_of_lt_of_le h1 hS.1)).trans (hS.2.1 x h1 h2), hS.2.2⟩
end VXW
theorem vx_in {i : Int32} {n : Nat} (h : ¬ (i < 0 ∨ n ≤ i.toNatClampNeg)) : vp_in i n := h
theorem vx_nlt {x y : Int32} (h : ¬ x < y) : y ≤ x := Int32.not_lt.mp h
def vx_bin (k lo hi : Int32) : Int32 := if k < lo then 0 else if hi < k then 0 else 1
theorem vx_bin_a {k lo hi : Int32} (h : k < lo) : 0 = vx_bin k lo hi := (if_pos h).symm
theorem vx_bin_b {k lo hi : Int32} (h1 : ¬ k < lo) (h : hi < k) : 0 = vx_bin k lo hi := by rw [vx_bin, if_neg h1, if_pos h]
theorem vx_bin_c {k lo hi : Int32} (h1 : ¬ k < lo) (h : ¬ hi < k) : 1 = vx_bin k lo hi := by rw [vx_bin, if_neg h1, if_neg h]
theorem vx_bin_no {k lo hi : Int32} (h : hi < lo) : vx_bin k lo hi = 0 := by
  rw [vx_bin]
  by_cases h1 : k < lo
  · rw [if_pos h1]
  · rw [if_neg h1, if_pos (by rw [Int32.lt_iff_toInt_lt] at h h1 ⊢; omega)]
def md_end (n : Int32) : Int32 := if n < 0 then -1 else if 0 < n then -1 else n
theorem md_end_a {n : Int32} (h : n < 0) : -1 = md_end n := (if_pos h).symm
theorem md_end_b {n : Int32} (h1 : ¬ n < 0) (h : ¬ n ≤ 0) : -1 = md_end n := by rw [md_end, if_neg h1, if_pos (Int32.not_le.mp h)]
theorem md_end_c {n : Int32} (h1 : ¬ n < 0) (h : n ≤ 0) : n = md_end n := by rw [md_end, if_neg h1, if_neg (fun q => Int32.not_le.mpr q h)]
theorem md_end_m {n r : Int32} (h : r = vx_bin n 0 0) (h0 : r = 0) : -1 = md_end n := by
  rw [md_end]
  by_cases h1 : n < 0
  · rw [if_pos h1]
  · rw [if_neg h1]
    by_cases h2 : 0 < n
    · rw [if_pos h2]
    · rw [vx_bin, if_neg h1, if_neg h2] at h
      exact absurd (h.symm.trans h0) (by decide)
theorem md_end_n {n r : Int32} (h : r = vx_bin n 0 0) (h0 : ¬ r = 0) : n = md_end n := by
  rw [md_end]
  by_cases h1 : n < 0
  · rw [vx_bin, if_pos h1] at h
    exact absurd h h0
  · rw [if_neg h1]
    by_cases h2 : 0 < n
    · rw [vx_bin, if_neg h1, if_pos h2] at h
      exact absurd h h0
    · rw [if_neg h2]
def md_fault (w : Int32) : Int32 := if w = 0 then 0 else -1
theorem md_fault_a {w : Int32} (h : w = 0) : 0 = md_fault w := (if_pos h).symm
theorem md_fault_b {w : Int32} (h : ¬ w = 0) : -1 = md_fault w := (if_neg h).symm
abbrev fsX (g : Nat → Nat) : List Value := [.ref (g 0), .int 0, .int 0, .ref (g 3), .ref (g 4), .ref (g 5), .ref (g 6), .ref (g 7), .ref (g 8), .int 0, .int (-1), .ref (g 11), .ref (g 12), .ref (g 13), .ref (g 14), .null]
abbrev fsM (g : Nat → Nat) : List Value := [.int 0, .ref (g 1), .int 0, .ref (g 3), .ref (g 4), .ref (g 5), .ref (g 6), .ref (g 7), .ref (g 8), .ref (g 9), .int 0, .ref (g 11), .ref (g 12), .ref (g 13), .ref (g 14), .ref (g 15), .ref (g 16), .ref (g 17), .ref (g 18), .int 0, .int 0, .int 0, .int 0, .int 0, .long 0, .int 0, .int 0, .int (-1), .int 0, .int 0, .int 0, .int 0, .int 0, .int 0, .int 0, .ref (g 35), .ref (g 36), .ref (g 37), .ref (g 38), .int 0, .int 0, .ref (g 41), .ref (g 42), .int 0, .ref (g 44), .ref (g 45), .ref (g 46), .ref (g 47), .ref (g 48), .ref (g 49), .ref (g 50), .ref (g 51), .ref (g 52), .ref (g 53), .ref (g 54), .ref (g 55), .ref (g 56), .ref (g 57), .ref (g 58), .ref (g 59), .ref (g 60), .ref (g 61), .int 0, .ref (g 63), .ref (g 64), .ref (g 65), .ref (g 66), .int 0, .int 0, .int 0, .int 0, .int 0, .int 0, .ref (g 73), .ref (g 74), .ref (g 75), .ref (g 76), .ref (g 77), .ref (g 78), .ref (g 79), .ref (g 80), .ref (g 81), .ref (g 82), .int 0, .int 0, .int 0, .ref (g 86)]
