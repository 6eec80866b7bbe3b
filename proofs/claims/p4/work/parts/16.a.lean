/-! the text of signs: where it stands is known -/
def pKA (g : Nat × Nat) (bs : Nat) (U : State) : Prop := va_O "java/lang/String" g.1 (pA bs) U U.heap ∧ va_OF "java/lang/String" "coder" "B" (.int 0) g.1 (pA bs) U U.heap ∧ va_OF "java/lang/String" "value" "[B" (.ref g.2) g.1 (pA bs) U U.heap ∧ va_T .byte g.2 11 (fun j => .int (sgB.getD j 0)) (pA bs) U U.heap
theorem pKA.call {g : Nat × Nat} {bs : Nat} {s U : State} {H : Heap} {locs : List Loc} (h : pKA g bs s) (hS : va_S (pA bs) s.heap H locs) (hU : U.heap = H) (hW : s.WarmedH U.vm) : pKA g bs U := by
  have hq : ∀ a : Nat, a < s.heap.size → ¬ pA bs a → U.heap[a]? = s.heap[a]? := fun a h1 h2 => by rw [hU]; exact hS.2.1 a h1 h2
  have al := hW.alike
  exact ⟨(va_O.moved al h.1).kept hq, (va_OF.moved al h.2.1).kept hq, (va_OF.moved al h.2.2.1).kept hq, (va_T.moved al h.2.2.2).kept hq⟩
def Wq (g : Nat × Nat) (d : Nat) (M : MT) (pc : Nat) (P : PH) (sz : Nat) (L : List (Nat × Value)) (st : List Value) (o : Option Value × PH × Nat × Nat) : Prop :=
  ∀ (l : Launch) (D : va_G) (bs : Nat) (p : Program) (e : Env) (R : Room) (s : State) (m : MethodId) (args : Array Value) (below : List Frame) (meth : Method) (c : Code) (H : Heap) (locs : List Loc) (cells slots : Nat) (ls : Array Slot),
    pCx D bs d M p R s m args meth c → pKA g bs s → pW D bs P s H → H.size = sz → va_S (pA bs) s.heap H locs → lv_has ls M.2.2.1 L → cells + o.2.2.1 = R.cells + sz → slots + o.2.2.2 = R.slots →
    W p l e R s m args below meth c H locs cells slots (MQ below (pQ D bs o) args s R.cells R.slots (pA bs)) (F0 m pc ls st)
section WQR
variable {g : Nat × Nat} {d : Nat} {M : MT} {pc : Nat} {P : PH} {sz : Nat} {L : List (Nat × Value)} {st : List Value} {o : Option Value × PH × Nat × Nat} {a : Nat}
theorem wq_iconst {n : Int} {v : Int32} (hd : decode M.2.1 pc = .ok (.iconst n, 1)) (hv : Int32.ofInt n = v) (k : Wq g d M (pc + 1) P sz L (.int v :: st) o) : Wq g d M pc P sz L (st) o := by
  intro l D bs p e R s m args below meth c H locs cells slots ls C hg hW hz hS hl hc hn
  exact lv_iconst C.1 C.2.1 hd hv (k l D bs p e R s m args below meth c H locs cells slots ls C hg hW hz hS hl hc hn)
theorem wq_bipush {n : Int} {v : Int32} (hd : decode M.2.1 pc = .ok (.bipush n, 2)) (hv : (Int8.ofInt n).toInt32 = v) (k : Wq g d M (pc + 2) P sz L (.int v :: st) o) : Wq g d M pc P sz L (st) o := by
  intro l D bs p e R s m args below meth c H locs cells slots ls C hg hW hz hS hl hc hn
  exact lv_bipush C.1 C.2.1 hd hv (k l D bs p e R s m args below meth c H locs cells slots ls C hg hW hz hS hl hc hn)
theorem wq_sipush {n : Int} {v : Int32} (hd : decode M.2.1 pc = .ok (.sipush n, 3)) (hv : (Int16.ofInt n).toInt32 = v) (k : Wq g d M (pc + 3) P sz L (.int v :: st) o) : Wq g d M pc P sz L (st) o := by
  intro l D bs p e R s m args below meth c H locs cells slots ls C hg hW hz hS hl hc hn
  exact lv_sipush C.1 C.2.1 hd hv (k l D bs p e R s m args below meth c H locs cells slots ls C hg hW hz hS hl hc hn)
theorem wq_iload_n {kf : Fin 4} {i : Nat} {x : Int32} (hd : decode M.2.1 pc = .ok (.iload_n kf, 1)) (hi : (kf : Nat) = i) (q : Nat) (hq : L[q]? = some (i, .int x)) (k : Wq g d M (pc + 1) P sz L (.int x :: st) o) : Wq g d M pc P sz L (st) o := by
  intro l D bs p e R s m args below meth c H locs cells slots ls C hg hW hz hS hl hc hn
  exact lv_iload_n C.1 C.2.1 hd hi (lv_at hl q hq) (k l D bs p e R s m args below meth c H locs cells slots ls C hg hW hz hS hl hc hn)
theorem wq_iload {i : Nat} {x : Int32} (hd : decode M.2.1 pc = .ok (.iload i, 2)) (q : Nat) (hq : L[q]? = some (i, .int x)) (k : Wq g d M (pc + 2) P sz L (.int x :: st) o) : Wq g d M pc P sz L (st) o := by
  intro l D bs p e R s m args below meth c H locs cells slots ls C hg hW hz hS hl hc hn
  exact lv_iload C.1 C.2.1 hd (lv_at hl q hq) (k l D bs p e R s m args below meth c H locs cells slots ls C hg hW hz hS hl hc hn)
theorem wq_aload_n {kf : Fin 4} {i : Nat} {x : Nat} (hd : decode M.2.1 pc = .ok (.aload_n kf, 1)) (hi : (kf : Nat) = i) (q : Nat) (hq : L[q]? = some (i, .ref x)) (k : Wq g d M (pc + 1) P sz L (.ref x :: st) o) : Wq g d M pc P sz L (st) o := by
  intro l D bs p e R s m args below meth c H locs cells slots ls C hg hW hz hS hl hc hn
  exact lv_aload_n C.1 C.2.1 hd hi (lv_at hl q hq) (k l D bs p e R s m args below meth c H locs cells slots ls C hg hW hz hS hl hc hn)
theorem wq_istore_n {kf : Fin 4} {i : Nat} {x : Int32} {L' : List (Nat × Value)} (hd : decode M.2.1 pc = .ok (.istore_n kf, 1)) (hi : (kf : Nat) = i) (hm : i < M.2.2.1) (hq : (i, Value.int x) :: L.filter (fun q => !(q.1 == i) && !(q.1 + 1 == i && q.2.category == 2)) = L') (k : Wq g d M (pc + 1) P sz L' st o) : Wq g d M pc P sz L (.int x :: st) o := by
  intro l D bs p e R s m args below meth c H locs cells slots ls C hg hW hz hS hl hc hn
  exact lv_istore_n C.1 C.2.1 hd hi hl hm hq (fun ls2 hl2 => k l D bs p e R s m args below meth c H locs cells slots ls2 C hg hW hz hS hl2 hc hn)
theorem wq_istore {i : Nat} {x : Int32} {L' : List (Nat × Value)} (hd : decode M.2.1 pc = .ok (.istore i, 2)) (hm : i < M.2.2.1) (hq : (i, Value.int x) :: L.filter (fun q => !(q.1 == i) && !(q.1 + 1 == i && q.2.category == 2)) = L') (k : Wq g d M (pc + 2) P sz L' st o) : Wq g d M pc P sz L (.int x :: st) o := by
  intro l D bs p e R s m args below meth c H locs cells slots ls C hg hW hz hS hl hc hn
  exact lv_istore C.1 C.2.1 hd hl hm hq (fun ls2 hl2 => k l D bs p e R s m args below meth c H locs cells slots ls2 C hg hW hz hS hl2 hc hn)
theorem wq_iinc {i q0 : Nat} {n : Int} {x v : Int32} {L' : List (Nat × Value)} (hd : decode M.2.1 pc = .ok (.iinc i n, 3)) (hq0 : L[q0]? = some (i, .int x)) (hv : x + Int32.ofInt n = v) (hm : i < M.2.2.1) (hq : (i, Value.int v) :: L.filter (fun q => !(q.1 == i) && !(q.1 + 1 == i && q.2.category == 2)) = L') (k : Wq g d M (pc + 3) P sz L' st o) : Wq g d M pc P sz L st o := by
  intro l D bs p e R s m args below meth c H locs cells slots ls C hg hW hz hS hl hc hn
  exact lv_iinc C.1 C.2.1 hd hl hq0 hv hm hq (fun ls2 hl2 => k l D bs p e R s m args below meth c H locs cells slots ls2 C hg hW hz hS hl2 hc hn)
theorem wq_ishr {x y : Int32} (hd : decode M.2.1 pc = .ok (.ishr, 1))  (k : Wq g d M (pc + 1) P sz L (.int (x >>> (y &&& 31)) :: st) o) : Wq g d M pc P sz L (.int y :: .int x :: st) o := by
  intro l D bs p e R s m args below meth c H locs cells slots ls C hg hW hz hS hl hc hn
  exact lv_ishr C.1 C.2.1 hd  (k l D bs p e R s m args below meth c H locs cells slots ls C hg hW hz hS hl hc hn)
theorem wq_i2b {x v : Int32} (hd : decode M.2.1 pc = .ok (.i2b, 1)) (hv : x.toInt8.toInt32 = v) (k : Wq g d M (pc + 1) P sz L (.int v :: st) o) : Wq g d M pc P sz L (.int x :: st) o := by
  intro l D bs p e R s m args below meth c H locs cells slots ls C hg hW hz hS hl hc hn
  exact lv_i2b C.1 C.2.1 hd hv (k l D bs p e R s m args below meth c H locs cells slots ls C hg hW hz hS hl hc hn)
theorem wq_if_eq {x : Int32} {off : Int} {tgt : Nat} (hd : decode M.2.1 pc = .ok (.ifCond .eq off, 3)) (ht : (pc : Int) + off = (tgt : Int)) (kt : x = 0 → Wq g d M tgt P sz L st o) (kf : ¬ x = 0 → Wq g d M (pc + 3) P sz L st o) : Wq g d M pc P sz L (.int x :: st) o := by
  intro l D bs p e R s m args below meth c H locs cells slots ls C hg hW hz hS hl hc hn
  exact lv_if_eq C.1 C.2.1 hd ht (fun h => kt h l D bs p e R s m args below meth c H locs cells slots ls C hg hW hz hS hl hc hn) (fun h => kf h l D bs p e R s m args below meth c H locs cells slots ls C hg hW hz hS hl hc hn)
theorem wq_if_ne {x : Int32} {off : Int} {tgt : Nat} (hd : decode M.2.1 pc = .ok (.ifCond .ne off, 3)) (ht : (pc : Int) + off = (tgt : Int)) (kt : ¬ x = 0 → Wq g d M tgt P sz L st o) (kf : x = 0 → Wq g d M (pc + 3) P sz L st o) : Wq g d M pc P sz L (.int x :: st) o := by
  intro l D bs p e R s m args below meth c H locs cells slots ls C hg hW hz hS hl hc hn
  exact lv_if_ne C.1 C.2.1 hd ht (fun h => kt h l D bs p e R s m args below meth c H locs cells slots ls C hg hW hz hS hl hc hn) (fun h => kf h l D bs p e R s m args below meth c H locs cells slots ls C hg hW hz hS hl hc hn)
theorem wq_if_lt {x : Int32} {off : Int} {tgt : Nat} (hd : decode M.2.1 pc = .ok (.ifCond .lt off, 3)) (ht : (pc : Int) + off = (tgt : Int)) (kt : x < 0 → Wq g d M tgt P sz L st o) (kf : ¬ x < 0 → Wq g d M (pc + 3) P sz L st o) : Wq g d M pc P sz L (.int x :: st) o := by
  intro l D bs p e R s m args below meth c H locs cells slots ls C hg hW hz hS hl hc hn
  exact lv_if_lt C.1 C.2.1 hd ht (fun h => kt h l D bs p e R s m args below meth c H locs cells slots ls C hg hW hz hS hl hc hn) (fun h => kf h l D bs p e R s m args below meth c H locs cells slots ls C hg hW hz hS hl hc hn)
theorem wq_icmp_lt {x y : Int32} {off : Int} {tgt : Nat} (hd : decode M.2.1 pc = .ok (.if_icmp .lt off, 3)) (ht : (pc : Int) + off = (tgt : Int)) (kt : x < y → Wq g d M tgt P sz L st o) (kf : ¬ x < y → Wq g d M (pc + 3) P sz L st o) : Wq g d M pc P sz L (.int y :: .int x :: st) o := by
  intro l D bs p e R s m args below meth c H locs cells slots ls C hg hW hz hS hl hc hn
  exact lv_icmp_lt C.1 C.2.1 hd ht (fun h => kt h l D bs p e R s m args below meth c H locs cells slots ls C hg hW hz hS hl hc hn) (fun h => kf h l D bs p e R s m args below meth c H locs cells slots ls C hg hW hz hS hl hc hn)
theorem wq_icmp_ge {x y : Int32} {off : Int} {tgt : Nat} (hd : decode M.2.1 pc = .ok (.if_icmp .ge off, 3)) (ht : (pc : Int) + off = (tgt : Int)) (kt : y ≤ x → Wq g d M tgt P sz L st o) (kf : ¬ y ≤ x → Wq g d M (pc + 3) P sz L st o) : Wq g d M pc P sz L (.int y :: .int x :: st) o := by
  intro l D bs p e R s m args below meth c H locs cells slots ls C hg hW hz hS hl hc hn
  exact lv_icmp_ge C.1 C.2.1 hd ht (fun h => kt h l D bs p e R s m args below meth c H locs cells slots ls C hg hW hz hS hl hc hn) (fun h => kf h l D bs p e R s m args below meth c H locs cells slots ls C hg hW hz hS hl hc hn)
theorem wq_icmp_gt {x y : Int32} {off : Int} {tgt : Nat} (hd : decode M.2.1 pc = .ok (.if_icmp .gt off, 3)) (ht : (pc : Int) + off = (tgt : Int)) (kt : y < x → Wq g d M tgt P sz L st o) (kf : ¬ y < x → Wq g d M (pc + 3) P sz L st o) : Wq g d M pc P sz L (.int y :: .int x :: st) o := by
  intro l D bs p e R s m args below meth c H locs cells slots ls C hg hW hz hS hl hc hn
  exact lv_icmp_gt C.1 C.2.1 hd ht (fun h => kt h l D bs p e R s m args below meth c H locs cells slots ls C hg hW hz hS hl hc hn) (fun h => kf h l D bs p e R s m args below meth c H locs cells slots ls C hg hW hz hS hl hc hn)
theorem wq_icmp_ne {x y : Int32} {off : Int} {tgt : Nat} (hd : decode M.2.1 pc = .ok (.if_icmp .ne off, 3)) (ht : (pc : Int) + off = (tgt : Int)) (kt : ¬ x = y → Wq g d M tgt P sz L st o) (kf : x = y → Wq g d M (pc + 3) P sz L st o) : Wq g d M pc P sz L (.int y :: .int x :: st) o := by
  intro l D bs p e R s m args below meth c H locs cells slots ls C hg hW hz hS hl hc hn
  exact lv_icmp_ne C.1 C.2.1 hd ht (fun h => kt h l D bs p e R s m args below meth c H locs cells slots ls C hg hW hz hS hl hc hn) (fun h => kf h l D bs p e R s m args below meth c H locs cells slots ls C hg hW hz hS hl hc hn)
theorem wq_goto {off : Int} {tgt : Nat} (hd : decode M.2.1 pc = .ok (.goto off, 3)) (ht : (pc : Int) + off = (tgt : Int)) (k : Wq g d M tgt P sz L st o) : Wq g d M pc P sz L st o := by
  intro l D bs p e R s m args below meth c H locs cells slots ls C hg hW hz hS hl hc hn
  exact lv_goto C.1 C.2.1 hd ht (k l D bs p e R s m args below meth c H locs cells slots ls C hg hW hz hS hl hc hn)
theorem wq_iret {v : Int32} (hr : M.2.2.2 = some .int) (hd : decode M.2.1 pc = .ok (.ireturn, 1)) : Wq g d M pc P sz L [.int v] (some (.int v), P, sz, 0) := by
  intro l D bs p e R s m args below meth c H locs cells slots ls C hg hW hz hS hl hc hn
  have e1 : cells = R.cells := by simpa using hc
  have e2 : slots = R.slots := by simpa using hn
  subst e1
  subst e2
  exact W.iret C.1 C.2.1 (C.2.2.2.1.trans hr) (fun t ht hWm => ⟨rfl, by rw [ht]; exact hz, by rw [ht]; exact hW.moved hWm.alike, hS.F ht⟩) hS.2.2 hd C.2.2.2.2.1
theorem wq_zret {v : Int32} {ty : FieldType} (hr : M.2.2.2 = some ty) (hnr : narrow ty (.int v) = .int v) (hd : decode M.2.1 pc = .ok (.ireturn, 1)) : Wq g d M pc P sz L [.int v] (some (.int v), P, sz, 0) := by
  intro l D bs p e R s m args below meth c H locs cells slots ls C hg hW hz hS hl hc hn
  have e1 : cells = R.cells := by simpa using hc
  have e2 : slots = R.slots := by simpa using hn
  subst e1
  subst e2
  exact W.zret C.1 C.2.1 (C.2.2.2.1.trans hr) hnr (fun t ht hWm => ⟨rfl, by rw [ht]; exact hz, by rw [ht]; exact hW.moved hWm.alike, hS.F ht⟩) hS.2.2 hd C.2.2.2.2.1
theorem wq_mmax {ix : Nat} {x y : Int32} (hd : decode M.2.1 pc = .ok (.invokestatic ix, 3)) (h1 : Cond.methodLink M.1.cls ix Lib.Math.max.name ∈ pWW) (h2 : Cond.static Lib.Math.max.name ∈ pWW) (h3 : Cond.initialized "java/lang/Math" ∈ pWW) (h4 : Cond.code Lib.Math.max.name Lib.Math.max.code 2 (some .int) ∈ pWW) (hd1 : 0 < d) (hcat : (st.map fun v => v.category).sum ≤ 8) (hm : sz ≤ o.2.2.1) (kk : Wq g d M (pc + 3) P sz L (.int (if x < y then y else x) :: st) o) : Wq g d M pc P sz L (.int y :: .int x :: st) o := by
  intro l D bs p e R s m args below meth c H locs cells slots ls C hg hW hz hS hl hc hn
  exact va_mmax C.1 C.2.1 (by rw [C.2.2.1]; exact hl.1.symm) (pC_own C) (pC_word C h1) (pC_word C h2) (pC_word C h3) (pC_word C h4) (by rw [(pC_R C).1]; omega) (by rw [(pC_R C).2]; omega) (by omega) (by omega) hd (kk l D bs p e R s m args below meth c H locs cells slots ls C hg hW hz hS hl hc hn)
theorem wq_mmin {ix : Nat} {x y : Int32} (hd : decode M.2.1 pc = .ok (.invokestatic ix, 3)) (h1 : Cond.methodLink M.1.cls ix Lib.Math.min.name ∈ pWW) (h2 : Cond.static Lib.Math.min.name ∈ pWW) (h3 : Cond.initialized "java/lang/Math" ∈ pWW) (h4 : Cond.code Lib.Math.min.name Lib.Math.min.code 2 (some .int) ∈ pWW) (hd1 : 0 < d) (hcat : (st.map fun v => v.category).sum ≤ 8) (hm : sz ≤ o.2.2.1) (kk : Wq g d M (pc + 3) P sz L (.int (if y < x then y else x) :: st) o) : Wq g d M pc P sz L (.int y :: .int x :: st) o := by
  intro l D bs p e R s m args below meth c H locs cells slots ls C hg hW hz hS hl hc hn
  exact va_mmin C.1 C.2.1 (by rw [C.2.2.1]; exact hl.1.symm) (pC_own C) (pC_word C h1) (pC_word C h2) (pC_word C h3) (pC_word C h4) (by rw [(pC_R C).1]; omega) (by rw [(pC_R C).2]; omega) (by omega) (by omega) hd (kk l D bs p e R s m args below meth c H locs cells slots ls C hg hW hz hS hl hc hn)
theorem wq_coder {ix : Nat} (hM : M.1.cls = "java/lang/String") (hd : decode M.2.1 pc = .ok (.getfield ix, 3)) (hw : Cond.fieldLink M.1.cls ix "java/lang/String" "coder" "B" ∈ pWW) (k : Wq g d M (pc + 3) P sz L (.int 0 :: st) o) : Wq g d M pc P sz L (.ref g.1 :: st) o := by
  intro l D bs p e R s m args below meth c H locs cells slots ls C hg hW hz hS hl hc hn
  exact vk_getf C.1 C.2.1 hg.2.1 hS (pC_own C) (pC_word C hw) (fun _ h => h) hd (k l D bs p e R s m args below meth c H locs cells slots ls C hg hW hz hS hl hc hn)
theorem wq_value {ix : Nat} (hM : M.1.cls = "java/lang/String") (hd : decode M.2.1 pc = .ok (.getfield ix, 3)) (hw : Cond.fieldLink M.1.cls ix "java/lang/String" "value" "[B" ∈ pWW) (k : Wq g d M (pc + 3) P sz L (.ref g.2 :: st) o) : Wq g d M pc P sz L (.ref g.1 :: st) o := by
  intro l D bs p e R s m args below meth c H locs cells slots ls C hg hW hz hS hl hc hn
  exact vk_getf C.1 C.2.1 hg.2.2.1 hS (pC_own C) (pC_word C hw) (fun _ h => h) hd (k l D bs p e R s m args below meth c H locs cells slots ls C hg hW hz hS hl hc hn)
theorem wq_compact {ix : Nat} (hd : decode M.2.1 pc = .ok (.getstatic ix, 3)) (hw : Cond.fieldLink M.1.cls ix "java/lang/String" "COMPACT_STRINGS" "Z" ∈ pWW) (k : Wq g d M (pc + 3) P sz L (.int 1 :: st) o) : Wq g d M pc P sz L st o := by
  intro l D bs p e R s m args below meth c H locs cells slots ls C hg hW hz hS hl hc hn
  exact va_gets C.1 C.2.1 (pC_G C).2.2.2.1 hS (pC_own C) (pC_word C hw) (fun _ h => h) hd (k l D bs p e R s m args below meth c H locs cells slots ls C hg hW hz hS hl hc hn)
theorem wq_tlen (hd : decode M.2.1 pc = .ok (.arraylength, 1)) (k : Wq g d M (pc + 1) P sz L (.int 11 :: st) o) : Wq g d M pc P sz L (.ref g.2 :: st) o := by
  intro l D bs p e R s m args below meth c H locs cells slots ls C hg hW hz hS hl hc hn
  exact va_tlen C.1 C.2.1 hg.2.2.2 hS (v := 11) rfl hd (k l D bs p e R s m args below meth c H locs cells slots ls C hg hW hz hS hl hc hn)
theorem wq_tb {i v : Int32} (hin : vp_in i 11) (hv : sgB.getD i.toNatClampNeg 0 = v) (hd : decode M.2.1 pc = .ok (.baload, 1)) (k : Wq g d M (pc + 1) P sz L (.int v :: st) o) : Wq g d M pc P sz L (.int i :: .ref g.2 :: st) o := by
  intro l D bs p e R s m args below meth c H locs cells slots ls C hg hW hz hS hl hc hn
  exact va_tb C.1 C.2.1 hg.2.2.2 hS hin (v := .int v) (by rw [← hv]) hd (k l D bs p e R s m args below meth c H locs cells slots ls C hg hW hz hS hl hc hn)
end WQR
def pPreQ (g : Nat × Nat) (D : va_G) (bs : Nat) (P : PH) (sz : Nat) : State → Prop := fun U => pPre D bs P sz U ∧ pKA g bs U
theorem pPreQ_blind {g : Nat × Nat} {D : va_G} {bs : Nat} {P : PH} {sz : Nat} {av : List Value} : FrameBlind (va_Pc av (pPreQ g D bs P sz)) := by
  intro a U f mk q
  obtain ⟨q0, qp, qA⟩ := q
  have h := pPre_blind (av := av) a U f mk ⟨q0, qp⟩
  exact ⟨q0, h.2, va_O.moved (u := U) (U := U.calling f mk a) (Vm.Alike.refl U.vm) qA.1, va_OF.moved (u := U) (U := U.calling f mk a) (Vm.Alike.refl U.vm) qA.2.1, va_OF.moved (u := U) (U := U.calling f mk a) (Vm.Alike.refl U.vm) qA.2.2.1, va_T.moved (u := U) (U := U.calling f mk a) (Vm.Alike.refl U.vm) qA.2.2.2⟩
theorem wq_met {g : Nat × Nat} {d : Nat} {M : MT} {P : PH} {sz : Nat} {av : List Value} {L : List (Nat × Value)} {o : Option Value × PH × Nat × Nat} {k : Nat} (hy : plainName M.1.cls = true) (hL : lv_args 0 av = L) (hlen : (lg_sl av).length ≤ M.2.2.1) (hk : o.2.2.1 = sz + k) (h : Wq g d M 0 P sz L [] o) (l : Launch) (D : va_G) (bs : Nat) : Met l M.1 (pWs M) (pRm d k o.2.2.2) (va_Pc av (pPreQ g D bs P sz)) (pQ D bs o) k o.2.2.2 (pA bs) := by
  refine Met.ofW (cc := M.2.1) (maxL := M.2.2.1) (ret := M.2.2.2) hy rfl ?_
  intro p e s m args below meth c s₁ B hml hv
  obtain ⟨rfl, ⟨hsz, hPw, hK, hG⟩, hA⟩ := hv
  have hts := atoms_spec (ws := pWs M) B.pre
  have hl := lv_entry av (n := M.2.2.1) hlen
  rw [lg_entry_eq]
  generalize (lg_sl av ++ List.replicate (M.2.2.1 - (lg_sl av).length) Slot.unset).toArray = ls at hl ⊢
  exact h l D bs p e (pRm d k o.2.2.2) s m av.toArray below meth c s.heap [] 0 0 ls ⟨B.exec, B.bytes, hml, B.returns, B.notSynchronized, findClass_of_methodNamed B.named, fun w hw => hts w (List.mem_cons_of_mem _ hw), hK, hG, rfl, rfl, (name_of_methodNamed B.named B.method).1⟩ hA hPw hsz va_S.rf (by rw [← hL]; exact hl) (by rw [hk]; show 0 + (sz + k) = k + sz; omega) (Nat.zero_add _)
section WQC
variable {g : Nat × Nat} {d : Nat} {M M' : MT} {pc : Nat} {P : PH} {sz : Nat} {L L1 : List (Nat × Value)} {rest As : List Value} {v : Value} {o2 : Option Value × PH × Nat × Nat}
theorem pPreSq {D : va_G} {bs : Nat} {p : Program} {R : Room} {s : State} {m : MethodId} {args : Array Value} {meth : Method} {c : Code} {H : Heap} {locs : List Loc} {av : List Value} (C : pCx D bs d M p R s m args meth c) (hg : pKA g bs s) (hW : pW D bs P s H) (hz : H.size = sz) (hS : va_S (pA bs) s.heap H locs) : PreS s H (va_Pc av (pPreQ g D bs P sz)) av :=
  ⟨pPreQ_blind, fun U hU hWm => ⟨rfl, ⟨by rw [hU]; exact hz, by rw [hU]; exact hW.moved hWm.alike, va_K.moved hWm.alike (pC_K C), (pC_G C).call hS hU hWm⟩, hg.call hS hU hWm⟩⟩
theorem pPreVq {D : va_G} {bs : Nat} {p : Program} {R : Room} {s : State} {m : MethodId} {args : Array Value} {meth : Method} {c : Code} {H : Heap} {locs : List Loc} (C : pCx D bs d M p R s m args meth c) (hg : pKA g bs s) (hW : pW D bs P s H) (hz : H.size = sz) (hS : va_S (pA bs) s.heap H locs) : PreV s H "java/lang/String" g.1 (va_Pc (.ref g.1 :: As) (pPreQ g D bs P sz)) As :=
  ⟨pPreQ_blind, by
    obtain ⟨cell, h1, h2, h3, -⟩ := hg.1.kept hS.2.1
    exact ⟨cell, h1, h2, h3⟩, fun U hU hWm => ⟨rfl, ⟨by rw [hU]; exact hz, by rw [hU]; exact hW.moved hWm.alike, va_K.moved hWm.alike (pC_K C), (pC_G C).call hS hU hWm⟩, hg.call hS hU hWm⟩⟩
theorem pcallq {D : va_G} {bs : Nat} {l : Launch} {p : Program} {e : Env} {R : Room} {s : State} {m : MethodId} {args aa : Array Value} {below : List Frame} {meth : Method} {c : Code} {H : Heap} {locs : List Loc} {cells slots : Nat} {ls : Array Slot} {st0 : List Value} (C : pCx D bs d M p R s m args meth c) (hz : H.size = sz) (hS : va_S (pA bs) s.heap H locs) (hl : lv_has ls M.2.2.1 L)
    (hr : va_Run p l e R s m args below meth c H locs cells slots 0 0 (F0 m pc ls st0) rest (pQ D bs (some v, P, sz, 0) aa) (pA bs)) (h2 : ∀ (H1 : Heap) (locs1 : List Loc), pW D bs P s H1 → H1.size = sz → va_S (pA bs) s.heap H1 locs1 → W p l e R s m args below meth c H1 locs1 cells slots (MQ below (pQ D bs o2) args s R.cells R.slots (pA bs)) (F0 m (pc + 3) ls (v :: rest))) :
    W p l e R s m args below meth c H locs cells slots (MQ below (pQ D bs o2) args s R.cells R.slots (pA bs)) (F0 m pc ls st0) := by
  intro T hT X
  obtain ⟨v', st₀, t, T', L', h0, X', hL, e1, e2, ⟨hv, hsz, hPw, hF⟩, st⟩ := hr T hT X
  cases hv
  obtain ⟨hF1, hF2⟩ := hF
  rw [h0] at hF1 hF2
  have hvm : t.vm.Alike s.vm := by rw [← e2]; exact X'.warmed.alike.symm
  obtain ⟨t2, a1, b1⟩ := h2 T'.heap (locs ++ L') (by rw [e1]; exact hPw.moved hvm) (by rw [e1]; exact hsz) ⟨Nat.le_trans hS.1 (by rw [e1]; exact hF1), fun q h1 h2 => by rw [e1, hF2 q (Nat.lt_of_lt_of_le h1 hS.1) h2]; exact hS.2.1 q h1 h2, fun q hq => by
      rcases List.mem_append.mp hq with h | h
      · exact hS.2.2 q h
      · exact hL q h⟩ T' rfl X'
  exact ⟨t2, st t2 a1, b1⟩
theorem wq_callS {ix : Nat} (hd : decode M.2.1 pc = .ok (.invokestatic ix, 3)) (hM : pOk M') (hst : Cond.static M'.1 ∈ pWW) (hlink : Cond.methodLink M.1.cls ix M'.1 ∈ pWW) (hnp : (parseMethodDescriptor M'.1.desc).map (fun d => d.parameters.length) = some As.length) (hL : lv_args 0 As = L1) (hlen : (lg_sl As).length ≤ M'.2.2.1) (hcat : (rest.map fun v => v.category).sum ≤ 8) (hm2 : sz ≤ o2.2.2.1) {st : List Value} (hst0 : st = As.reverse ++ rest) (h1 : Wq g d M' 0 P sz L1 [] (some v, P, sz, 0)) (h2 : Wq g (d + 1) M (pc + 3) P sz L (v :: rest) o2) : Wq g (d + 1) M pc P sz L st o2 := by
  intro l D bs p e R s m args below meth c H locs cells slots ls C hg hW hz hS hl hc hn
  exact pcallq (v := v) (o2 := o2) C hz hS hl (va_runS (Ts := pWW) (As := As) (rest := rest) ⟨C.1, C.2.1, C.2.2.1, pC_own C, fun w hw => pC_word C hw⟩ (wq_met (k := 0) (o := (some v, P, sz, 0)) hM.2.1 hL hlen rfl h1 l D bs) ⟨pCB C hM hlink hnp, pC_word C hst⟩ (pPreSq C hg hW hz hS) rfl rfl hl.1 hst0 (lv_room hcat) hd ⟨by omega, by omega⟩) (fun H1 locs1 w1 w2 w3 => h2 l D bs p e R s m args below meth c H1 locs1 cells slots ls C hg w1 w2 w3 hl hc hn)
theorem wq_callV {ix : Nat} (hd : decode M.2.1 pc = .ok (.invokevirtual ix, 3)) (hM : pOk M') (hcl : M'.1.cls = "java/lang/String") (hin : Cond.instanceMethod M'.1 ∈ pWW) (hse : Cond.selects "java/lang/String" M'.1 M'.1 ∈ pWW) (hlink : Cond.methodLink M.1.cls ix M'.1 ∈ pWW) (hnp : (parseMethodDescriptor M'.1.desc).map (fun d => d.parameters.length) = some As.length) (hL : lv_args 0 (.ref g.1 :: As) = L1) (hlen : (lg_sl (.ref g.1 :: As)).length ≤ M'.2.2.1) (hcat : (rest.map fun v => v.category).sum ≤ 8) (hm2 : sz ≤ o2.2.2.1) {st : List Value} (hst0 : st = As.reverse ++ .ref g.1 :: rest) (h1 : Wq g d M' 0 P sz L1 [] (some v, P, sz, 0)) (h2 : Wq g (d + 1) M (pc + 3) P sz L (v :: rest) o2) : Wq g (d + 1) M pc P sz L st o2 := by
  intro l D bs p e R s m args below meth c H locs cells slots ls C hg hW hz hS hl hc hn
  exact pcallq (v := v) (o2 := o2) C hz hS hl (va_runV (Ts := pWW) (C := "java/lang/String") (As := As) (rest := rest) ⟨C.1, C.2.1, C.2.2.1, pC_own C, fun w hw => pC_word C hw⟩ (wq_met (k := 0) (o := (some v, P, sz, 0)) hM.2.1 hL hlen rfl h1 l D bs) ⟨pCB C hM hlink hnp, pC_word C hin, pC_word C hse⟩ (pPreVq C hg hW hz hS) rfl rfl hl.1 hst0 (lv_room hcat) hd ⟨by omega, by omega⟩) (fun H1 locs1 w1 w2 w3 => h2 l D bs p e R s m args below meth c H1 locs1 cells slots ls C hg w1 w2 w3 hl hc hn)
end WQC
