section
abbrev pE : Type := (Nat × vp_A) ⊕ (Nat × List Value)
abbrev PH : Type := Nat → Option pE
abbrev MT : Type := MethodName × ByteArray × Nat × Option FieldType
def pTy (k : Nat) : FieldType := match k with
  | 0 => .int
  | 1 => .byte
  | 2 => .boolean
  | 3 => .long
  | 4 => .char
  | 5 => .object "LineKeeper$Code"
  | _ => .array .int
def pS (P : PH) (a : Nat) (e : pE) : PH := fun q => if q = a then some e else P q
theorem pS_same {P : PH} {a : Nat} {e : pE} : pS P a e a = some e := if_pos rfl
theorem pS_ne {P : PH} {a b : Nat} {e : pE} (h : b ≠ a) : pS P a e b = P b := if_neg h
def pA (bs : Nat) : Nat → Prop := fun q => bs ≤ q
def pAt (D : va_G) (U : State) (H : Heap) (a : Nat) (e : pE) : Prop := match e with
  | .inl x => ∃ cA : ClassId, (ArrOfT U cA (pTy x.1) ∧ va_RA U cA (pTy x.1)) ∧ H[a]? = some (vp_cell cA x.2)
  | .inr o => va_at D vwCl (a, .inr o) H ∧ ∃ r : vw_C, vwCl[o.1]? = some r ∧ o.2.length = r.2.2
def pW (D : va_G) (bs : Nat) (P : PH) (U : State) (H : Heap) : Prop := ∀ (a : Nat) (e : pE), P a = some e → bs ≤ a ∧ pAt D U H a e
theorem pAt.kept {D : va_G} {U : State} {H H1 : Heap} {a : Nat} {e : pE} (h : pAt D U H a e) (hq : H1[a]? = H[a]?) : pAt D U H1 a e := by
  cases e with
  | inl x =>
    obtain ⟨cA, h1, h2⟩ := h
    exact ⟨cA, h1, hq.trans h2⟩
  | inr o => exact ⟨va_at.kept h.1 hq, h.2⟩
theorem pAt.moved {D : va_G} {u U : State} {H : Heap} {a : Nat} {e : pE} (hvm : u.vm.Alike U.vm) (h : pAt D u H a e) : pAt D U H a e := by
  cases e with
  | inl x =>
    obtain ⟨cA, ⟨h1, h3⟩, h2⟩ := h
    exact ⟨cA, ⟨arrOfT_moved hvm h1, h3.moved hvm⟩, h2⟩
  | inr o => exact h
theorem pAt.lt {D : va_G} {U : State} {H : Heap} {a : Nat} {e : pE} (h : pAt D U H a e) : a < H.size := by
  cases e with
  | inl x =>
    obtain ⟨cA, -, h2⟩ := h
    exact (Array.getElem?_eq_some_iff.mp h2).1
  | inr o => exact va_at.lt h.1
theorem pW.moved {D : va_G} {bs : Nat} {P : PH} {u U : State} {H : Heap} (hvm : u.vm.Alike U.vm) (h : pW D bs P u H) : pW D bs P U H := fun a e ha => ⟨(h a e ha).1, (h a e ha).2.moved hvm⟩
theorem pW.put {D : va_G} {bs : Nat} {P : PH} {U : State} {H H1 : Heap} {a : Nat} {e : pE} (h : pW D bs P U H) (hb : bs ≤ a) (he : pAt D U H1 a e) (oq : ∀ q : Nat, q ≠ a → H1[q]? = H[q]?) : pW D bs (pS P a e) U H1 := by
  intro q x hq
  by_cases hqa : q = a
  · subst hqa
    rw [pS_same] at hq
    cases hq
    exact ⟨hb, he⟩
  · rw [pS_ne hqa] at hq
    exact ⟨(h q x hq).1, (h q x hq).2.kept (oq q hqa)⟩
theorem pW.push {D : va_G} {bs : Nat} {P : PH} {U : State} {H H1 : Heap} {e : pE} (h : pW D bs P U H) (hb : bs ≤ H.size) (he : pAt D U H1 H.size e) (oq : ∀ q : Nat, q < H.size → H1[q]? = H[q]?) : pW D bs (pS P H.size e) U H1 := by
  intro q x hq
  by_cases hqa : q = H.size
  · subst hqa
    rw [pS_same] at hq
    cases hq
    exact ⟨hb, he⟩
  · rw [pS_ne hqa] at hq
    exact ⟨(h q x hq).1, (h q x hq).2.kept (oq q (h q x hq).2.lt)⟩
def pWW : List Cond := lw_tbl.filter goodWord
def pWs (M : MT) : List Cond := .code M.1 M.2.1 M.2.2.1 M.2.2.2 :: pWW
theorem pWW_good : GoodIn pWW pWW := fun w h => ⟨h, good_of_word (List.mem_filter.mp h).2⟩
theorem pWs_good {M : MT} (h : Cond.code M.1 M.2.1 M.2.2.1 M.2.2.2 ∈ pWW) : GoodIn pWW (pWs M) := fun w hw => by
  rcases List.mem_cons.mp hw with rfl | hw
  · exact pWW_good _ h
  · exact pWW_good _ hw
def sgB : List Int32 := [40, 41, 123, 125, 44, 59, 61, 60, 43, 45, 42]
def wkI : List Int32 := [16052, 609900110, 294, 176741, 24388997]
def akI : List Int32 := [0, 1, 2, 3, 5, 4, 6, 11]
def pKs (bs : Nat) (U : State) : Prop := (∃ adK adV : Nat → Nat, vk_S 1 [11] [sgB] adK adV (pA bs) U U.heap ∧ vk_R "LineKeeperModel" 235 "(){},;=<+-*" (adK 0) U) ∧
  va_Z "java/lang/String" "COMPACT_STRINGS" "Z" (.int 1) (pA bs) U U.heap ∧
  (∃ t : Nat, va_Z "LineKeeper$Tokens" "WORD_KEYS" "[I" (.ref t) (pA bs) U U.heap ∧ va_T .int t 5 (fun j => .int (wkI.getD j 0)) (pA bs) U U.heap) ∧
  (∃ t : Nat, va_Z "LineKeeper$Tokens" "SIGNS" "[C" (.ref t) (pA bs) U U.heap ∧ va_T .char t 11 (fun j => .int (sgB.getD j 0)) (pA bs) U U.heap) ∧
  ∃ t : Nat, va_Z "LineKeeper" "ASKED" "[I" (.ref t) (pA bs) U U.heap ∧ va_T .int t 8 (fun j => .int (akI.getD j 0)) (pA bs) U U.heap
theorem pKs.call {bs : Nat} {s U : State} {H : Heap} {locs : List Loc} (h : pKs bs s) (hS : va_S (pA bs) s.heap H locs) (hU : U.heap = H) (hW : s.WarmedH U.vm) : pKs bs U := by
  have hq : ∀ a : Nat, a < s.heap.size → ¬ pA bs a → U.heap[a]? = s.heap[a]? := fun a h1 h2 => by rw [hU]; exact hS.2.1 a h1 h2
  have al := hW.alike
  obtain ⟨⟨aK, aV, k1, k2⟩, k3, ⟨t1, a1, b1⟩, ⟨t2, a2, b2⟩, t3, a3, b3⟩ := h
  exact ⟨⟨aK, aV, (k1.moved al).kept hq, k2.warm hW⟩, (k3.moved al).kept hq, ⟨t1, (a1.moved al).kept hq, (b1.moved al).kept hq⟩, ⟨t2, (a2.moved al).kept hq, (b2.moved al).kept hq⟩, t3, (a3.moved al).kept hq, (b3.moved al).kept hq⟩
def pG (bs : Nat) (U : State) : Prop := nst U ∧ bs ≤ U.heap.size ∧ pKs bs U
theorem pG.call {bs : Nat} {s U : State} {H : Heap} {locs : List Loc} (h : pG bs s) (hS : va_S (pA bs) s.heap H locs) (hU : U.heap = H) (hW : s.WarmedH U.vm) : pG bs U := ⟨nst.warm hW h.1, by rw [hU]; exact Nat.le_trans h.2.1 hS.1, h.2.2.call hS hU hW⟩
def pCx (D : va_G) (bs d : Nat) (M : MT) (p : Program) (R : Room) (s : State) (m : MethodId) (args : Array Value) (meth : Method) (c : Code) : Prop :=
  p.tables.exec = Jvm.exec ∧ c.code = M.2.1 ∧ c.maxLocals = M.2.2.1 ∧ meth.sig.returnType = M.2.2.2 ∧ meth.locks = false ∧ s.vm.findClass M.1.cls = some m.cls ∧ (∀ w ∈ pWW, w.before args s = true) ∧ va_K D vwCl [] s ∧ pG bs s ∧ R.frames = d ∧ R.locals = 64 * d ∧ meth.name = M.1.name
def pQ (D : va_G) (bs : Nat) (o : Option Value × PH × Nat × Nat) : Array Value → State → Outcome → State → Prop := fun _ st oc t => oc = .returned o.1 ∧ t.heap.size = o.2.2.1 ∧ pW D bs o.2.1 t t.heap ∧ va_F (pA bs) st t
def Wp (d : Nat) (M : MT) (pc : Nat) (P : PH) (sz : Nat) (L : List (Nat × Value)) (st : List Value) (o : Option Value × PH × Nat × Nat) : Prop :=
  ∀ (l : Launch) (D : va_G) (bs : Nat) (p : Program) (e : Env) (R : Room) (s : State) (m : MethodId) (args : Array Value) (below : List Frame) (meth : Method) (c : Code) (H : Heap) (locs : List Loc) (cells slots : Nat) (ls : Array Slot),
    pCx D bs d M p R s m args meth c → pW D bs P s H → H.size = sz → va_S (pA bs) s.heap H locs → lv_has ls M.2.2.1 L → cells + o.2.2.1 = R.cells + sz → slots + o.2.2.2 = R.slots →
    W p l e R s m args below meth c H locs cells slots (MQ below (pQ D bs o) args s R.cells R.slots (pA bs)) (F0 m pc ls st)
theorem pC_own {D : va_G} {bs d : Nat} {M : MT} {p : Program} {R : Room} {s : State} {m : MethodId} {args : Array Value} {meth : Method} {c : Code} (C : pCx D bs d M p R s m args meth c) : s.vm.findClass M.1.cls = some m.cls := C.2.2.2.2.2.1
theorem pC_word {D : va_G} {bs d : Nat} {M : MT} {p : Program} {R : Room} {s : State} {m : MethodId} {args : Array Value} {meth : Method} {c : Code} {w : Cond} (C : pCx D bs d M p R s m args meth c) (hw : w ∈ pWW) : w.before args s = true := C.2.2.2.2.2.2.1 w hw
theorem pC_K {D : va_G} {bs d : Nat} {M : MT} {p : Program} {R : Room} {s : State} {m : MethodId} {args : Array Value} {meth : Method} {c : Code} (C : pCx D bs d M p R s m args meth c) : va_K D vwCl [] s := C.2.2.2.2.2.2.2.1
theorem pC_G {D : va_G} {bs d : Nat} {M : MT} {p : Program} {R : Room} {s : State} {m : MethodId} {args : Array Value} {meth : Method} {c : Code} (C : pCx D bs d M p R s m args meth c) : pG bs s := C.2.2.2.2.2.2.2.2.1
theorem pC_R {D : va_G} {bs d : Nat} {M : MT} {p : Program} {R : Room} {s : State} {m : MethodId} {args : Array Value} {meth : Method} {c : Code} (C : pCx D bs d M p R s m args meth c) : R.frames = d ∧ R.locals = 64 * d := ⟨C.2.2.2.2.2.2.2.2.2.1, C.2.2.2.2.2.2.2.2.2.2.1⟩
theorem pone {D : va_G} {a : Nat} {e0 : va_E} {H : Heap} (h : va_at D vwCl (a, e0) H) : va_P D vwCl [(a, e0)] H := fun k q h1 => by
  match k, h1 with
  | 0, h1 => cases h1; exact h
  | k + 1, h1 => simp at h1
theorem pK1 {D : va_G} {s : State} {cA : ClassId} {ty : FieldType} (hK : va_K D vwCl [] s) (h : ArrOfT s cA ty ∧ va_RA s cA ty) : va_K D vwCl [(cA, ty)] s := ⟨hK.1, fun k q h1 => by
  match k, h1 with
  | 0, h1 => cases h1; exact h
  | k + 1, h1 => simp at h1⟩
section WPR
variable {d : Nat} {M : MT} {pc : Nat} {P : PH} {sz : Nat} {L : List (Nat × Value)} {st : List Value} {o : Option Value × PH × Nat × Nat}
theorem wp_iconst {n : Int} {v : Int32} (hd : decode M.2.1 pc = .ok (.iconst n, 1)) (hv : Int32.ofInt n = v) (k : Wp d M (pc + 1) P sz L (.int v :: st) o) : Wp d M pc P sz L (st) o := by
  intro l D bs p e R s m args below meth c H locs cells slots ls C hW hz hS hl hc hn
  exact lv_iconst C.1 C.2.1 hd hv (k l D bs p e R s m args below meth c H locs cells slots ls C hW hz hS hl hc hn)
theorem wp_bipush {n : Int} {v : Int32} (hd : decode M.2.1 pc = .ok (.bipush n, 2)) (hv : (Int8.ofInt n).toInt32 = v) (k : Wp d M (pc + 2) P sz L (.int v :: st) o) : Wp d M pc P sz L (st) o := by
  intro l D bs p e R s m args below meth c H locs cells slots ls C hW hz hS hl hc hn
  exact lv_bipush C.1 C.2.1 hd hv (k l D bs p e R s m args below meth c H locs cells slots ls C hW hz hS hl hc hn)
theorem wp_sipush {n : Int} {v : Int32} (hd : decode M.2.1 pc = .ok (.sipush n, 3)) (hv : (Int16.ofInt n).toInt32 = v) (k : Wp d M (pc + 3) P sz L (.int v :: st) o) : Wp d M pc P sz L (st) o := by
  intro l D bs p e R s m args below meth c H locs cells slots ls C hW hz hS hl hc hn
  exact lv_sipush C.1 C.2.1 hd hv (k l D bs p e R s m args below meth c H locs cells slots ls C hW hz hS hl hc hn)
theorem wp_lconst {n : Fin 2} {v : Int64} (hd : decode M.2.1 pc = .ok (.lconst n, 1)) (hv : Int64.ofNat (n : Nat) = v) (k : Wp d M (pc + 1) P sz L (.long v :: st) o) : Wp d M pc P sz L (st) o := by
  intro l D bs p e R s m args below meth c H locs cells slots ls C hW hz hS hl hc hn
  exact lv_lconst C.1 C.2.1 hd hv (k l D bs p e R s m args below meth c H locs cells slots ls C hW hz hS hl hc hn)
theorem wp_null  (hd : decode M.2.1 pc = .ok (.aconst_null, 1))  (k : Wp d M (pc + 1) P sz L (.null :: st) o) : Wp d M pc P sz L (st) o := by
  intro l D bs p e R s m args below meth c H locs cells slots ls C hW hz hS hl hc hn
  exact lv_null C.1 C.2.1 hd  (k l D bs p e R s m args below meth c H locs cells slots ls C hW hz hS hl hc hn)
theorem wp_iload_n {kf : Fin 4} {i : Nat} {x : Int32} (hd : decode M.2.1 pc = .ok (.iload_n kf, 1)) (hi : (kf : Nat) = i) (q : Nat) (hq : L[q]? = some (i, .int x)) (k : Wp d M (pc + 1) P sz L (.int x :: st) o) : Wp d M pc P sz L (st) o := by
  intro l D bs p e R s m args below meth c H locs cells slots ls C hW hz hS hl hc hn
  exact lv_iload_n C.1 C.2.1 hd hi (lv_at hl q hq) (k l D bs p e R s m args below meth c H locs cells slots ls C hW hz hS hl hc hn)
theorem wp_iload {i : Nat} {x : Int32} (hd : decode M.2.1 pc = .ok (.iload i, 2)) (q : Nat) (hq : L[q]? = some (i, .int x)) (k : Wp d M (pc + 2) P sz L (.int x :: st) o) : Wp d M pc P sz L (st) o := by
  intro l D bs p e R s m args below meth c H locs cells slots ls C hW hz hS hl hc hn
  exact lv_iload C.1 C.2.1 hd (lv_at hl q hq) (k l D bs p e R s m args below meth c H locs cells slots ls C hW hz hS hl hc hn)
theorem wp_lload_n {kf : Fin 4} {i : Nat} {x : Int64} (hd : decode M.2.1 pc = .ok (.lload_n kf, 1)) (hi : (kf : Nat) = i) (q : Nat) (hq : L[q]? = some (i, .long x)) (k : Wp d M (pc + 1) P sz L (.long x :: st) o) : Wp d M pc P sz L (st) o := by
  intro l D bs p e R s m args below meth c H locs cells slots ls C hW hz hS hl hc hn
  exact lv_lload_n C.1 C.2.1 hd hi (lv_at hl q hq) (k l D bs p e R s m args below meth c H locs cells slots ls C hW hz hS hl hc hn)
theorem wp_lload {i : Nat} {x : Int64} (hd : decode M.2.1 pc = .ok (.lload i, 2)) (q : Nat) (hq : L[q]? = some (i, .long x)) (k : Wp d M (pc + 2) P sz L (.long x :: st) o) : Wp d M pc P sz L (st) o := by
  intro l D bs p e R s m args below meth c H locs cells slots ls C hW hz hS hl hc hn
  exact lv_lload C.1 C.2.1 hd (lv_at hl q hq) (k l D bs p e R s m args below meth c H locs cells slots ls C hW hz hS hl hc hn)
theorem wp_aload_n {kf : Fin 4} {i : Nat} {x : Nat} (hd : decode M.2.1 pc = .ok (.aload_n kf, 1)) (hi : (kf : Nat) = i) (q : Nat) (hq : L[q]? = some (i, .ref x)) (k : Wp d M (pc + 1) P sz L (.ref x :: st) o) : Wp d M pc P sz L (st) o := by
  intro l D bs p e R s m args below meth c H locs cells slots ls C hW hz hS hl hc hn
  exact lv_aload_n C.1 C.2.1 hd hi (lv_at hl q hq) (k l D bs p e R s m args below meth c H locs cells slots ls C hW hz hS hl hc hn)
theorem wp_aload {i : Nat} {x : Nat} (hd : decode M.2.1 pc = .ok (.aload i, 2)) (q : Nat) (hq : L[q]? = some (i, .ref x)) (k : Wp d M (pc + 2) P sz L (.ref x :: st) o) : Wp d M pc P sz L (st) o := by
  intro l D bs p e R s m args below meth c H locs cells slots ls C hW hz hS hl hc hn
  exact lv_aload C.1 C.2.1 hd (lv_at hl q hq) (k l D bs p e R s m args below meth c H locs cells slots ls C hW hz hS hl hc hn)
theorem wp_aload_nN {kf : Fin 4} {i : Nat} (hd : decode M.2.1 pc = .ok (.aload_n kf, 1)) (hi : (kf : Nat) = i) (q : Nat) (hq : L[q]? = some (i, .null)) (k : Wp d M (pc + 1) P sz L (.null :: st) o) : Wp d M pc P sz L (st) o := by
  intro l D bs p e R s m args below meth c H locs cells slots ls C hW hz hS hl hc hn
  exact lv_aload_nN C.1 C.2.1 hd hi (lv_at hl q hq) (k l D bs p e R s m args below meth c H locs cells slots ls C hW hz hS hl hc hn)
theorem wp_aloadN {i : Nat} (hd : decode M.2.1 pc = .ok (.aload i, 2)) (q : Nat) (hq : L[q]? = some (i, .null)) (k : Wp d M (pc + 2) P sz L (.null :: st) o) : Wp d M pc P sz L (st) o := by
  intro l D bs p e R s m args below meth c H locs cells slots ls C hW hz hS hl hc hn
  exact lv_aloadN C.1 C.2.1 hd (lv_at hl q hq) (k l D bs p e R s m args below meth c H locs cells slots ls C hW hz hS hl hc hn)
theorem wp_istore_n {kf : Fin 4} {i : Nat} {x : Int32} {L' : List (Nat × Value)} (hd : decode M.2.1 pc = .ok (.istore_n kf, 1)) (hi : (kf : Nat) = i) (hm : i < M.2.2.1) (hq : (i, Value.int x) :: L.filter (fun q => !(q.1 == i) && !(q.1 + 1 == i && q.2.category == 2)) = L') (k : Wp d M (pc + 1) P sz L' st o) : Wp d M pc P sz L (.int x :: st) o := by
  intro l D bs p e R s m args below meth c H locs cells slots ls C hW hz hS hl hc hn
  exact lv_istore_n C.1 C.2.1 hd hi hl hm hq (fun ls2 hl2 => k l D bs p e R s m args below meth c H locs cells slots ls2 C hW hz hS hl2 hc hn)
theorem wp_istore {i : Nat} {x : Int32} {L' : List (Nat × Value)} (hd : decode M.2.1 pc = .ok (.istore i, 2)) (hm : i < M.2.2.1) (hq : (i, Value.int x) :: L.filter (fun q => !(q.1 == i) && !(q.1 + 1 == i && q.2.category == 2)) = L') (k : Wp d M (pc + 2) P sz L' st o) : Wp d M pc P sz L (.int x :: st) o := by
  intro l D bs p e R s m args below meth c H locs cells slots ls C hW hz hS hl hc hn
  exact lv_istore C.1 C.2.1 hd hl hm hq (fun ls2 hl2 => k l D bs p e R s m args below meth c H locs cells slots ls2 C hW hz hS hl2 hc hn)
theorem wp_lstore_n {kf : Fin 4} {i : Nat} {x : Int64} {L' : List (Nat × Value)} (hd : decode M.2.1 pc = .ok (.lstore_n kf, 1)) (hi : (kf : Nat) = i) (hm : i + 1 < M.2.2.1) (hq : (i, Value.long x) :: L.filter (fun q => !(q.1 == i) && (!(q.1 == i + 1) && !(q.1 + 1 == i && q.2.category == 2))) = L') (k : Wp d M (pc + 1) P sz L' st o) : Wp d M pc P sz L (.long x :: st) o := by
  intro l D bs p e R s m args below meth c H locs cells slots ls C hW hz hS hl hc hn
  exact lv_lstore_n C.1 C.2.1 hd hi hl hm hq (fun ls2 hl2 => k l D bs p e R s m args below meth c H locs cells slots ls2 C hW hz hS hl2 hc hn)
theorem wp_lstore {i : Nat} {x : Int64} {L' : List (Nat × Value)} (hd : decode M.2.1 pc = .ok (.lstore i, 2)) (hm : i + 1 < M.2.2.1) (hq : (i, Value.long x) :: L.filter (fun q => !(q.1 == i) && (!(q.1 == i + 1) && !(q.1 + 1 == i && q.2.category == 2))) = L') (k : Wp d M (pc + 2) P sz L' st o) : Wp d M pc P sz L (.long x :: st) o := by
  intro l D bs p e R s m args below meth c H locs cells slots ls C hW hz hS hl hc hn
  exact lv_lstore C.1 C.2.1 hd hl hm hq (fun ls2 hl2 => k l D bs p e R s m args below meth c H locs cells slots ls2 C hW hz hS hl2 hc hn)
theorem wp_astore_n {kf : Fin 4} {i : Nat} {x : Nat} {L' : List (Nat × Value)} (hd : decode M.2.1 pc = .ok (.astore_n kf, 1)) (hi : (kf : Nat) = i) (hm : i < M.2.2.1) (hq : (i, Value.ref x) :: L.filter (fun q => !(q.1 == i) && !(q.1 + 1 == i && q.2.category == 2)) = L') (k : Wp d M (pc + 1) P sz L' st o) : Wp d M pc P sz L (.ref x :: st) o := by
  intro l D bs p e R s m args below meth c H locs cells slots ls C hW hz hS hl hc hn
  exact lv_astore_n C.1 C.2.1 hd hi hl hm hq (fun ls2 hl2 => k l D bs p e R s m args below meth c H locs cells slots ls2 C hW hz hS hl2 hc hn)
theorem wp_astore {i : Nat} {x : Nat} {L' : List (Nat × Value)} (hd : decode M.2.1 pc = .ok (.astore i, 2)) (hm : i < M.2.2.1) (hq : (i, Value.ref x) :: L.filter (fun q => !(q.1 == i) && !(q.1 + 1 == i && q.2.category == 2)) = L') (k : Wp d M (pc + 2) P sz L' st o) : Wp d M pc P sz L (.ref x :: st) o := by
  intro l D bs p e R s m args below meth c H locs cells slots ls C hW hz hS hl hc hn
  exact lv_astore C.1 C.2.1 hd hl hm hq (fun ls2 hl2 => k l D bs p e R s m args below meth c H locs cells slots ls2 C hW hz hS hl2 hc hn)
theorem wp_astore_nN {kf : Fin 4} {i : Nat}  {L' : List (Nat × Value)} (hd : decode M.2.1 pc = .ok (.astore_n kf, 1)) (hi : (kf : Nat) = i) (hm : i < M.2.2.1) (hq : (i, Value.null) :: L.filter (fun q => !(q.1 == i) && !(q.1 + 1 == i && q.2.category == 2)) = L') (k : Wp d M (pc + 1) P sz L' st o) : Wp d M pc P sz L (.null :: st) o := by
  intro l D bs p e R s m args below meth c H locs cells slots ls C hW hz hS hl hc hn
  exact lv_astore_nN C.1 C.2.1 hd hi hl hm hq (fun ls2 hl2 => k l D bs p e R s m args below meth c H locs cells slots ls2 C hW hz hS hl2 hc hn)
theorem wp_astoreN {i : Nat}  {L' : List (Nat × Value)} (hd : decode M.2.1 pc = .ok (.astore i, 2)) (hm : i < M.2.2.1) (hq : (i, Value.null) :: L.filter (fun q => !(q.1 == i) && !(q.1 + 1 == i && q.2.category == 2)) = L') (k : Wp d M (pc + 2) P sz L' st o) : Wp d M pc P sz L (.null :: st) o := by
  intro l D bs p e R s m args below meth c H locs cells slots ls C hW hz hS hl hc hn
  exact lv_astoreN C.1 C.2.1 hd hl hm hq (fun ls2 hl2 => k l D bs p e R s m args below meth c H locs cells slots ls2 C hW hz hS hl2 hc hn)
theorem wp_iinc {i q0 : Nat} {n : Int} {x v : Int32} {L' : List (Nat × Value)} (hd : decode M.2.1 pc = .ok (.iinc i n, 3)) (hq0 : L[q0]? = some (i, .int x)) (hv : x + Int32.ofInt n = v) (hm : i < M.2.2.1) (hq : (i, Value.int v) :: L.filter (fun q => !(q.1 == i) && !(q.1 + 1 == i && q.2.category == 2)) = L') (k : Wp d M (pc + 3) P sz L' st o) : Wp d M pc P sz L st o := by
  intro l D bs p e R s m args below meth c H locs cells slots ls C hW hz hS hl hc hn
  exact lv_iinc C.1 C.2.1 hd hl hq0 hv hm hq (fun ls2 hl2 => k l D bs p e R s m args below meth c H locs cells slots ls2 C hW hz hS hl2 hc hn)
theorem wp_iadd {x y : Int32} (hd : decode M.2.1 pc = .ok (.iadd, 1))  (k : Wp d M (pc + 1) P sz L (.int (x + y) :: st) o) : Wp d M pc P sz L (.int y :: .int x :: st) o := by
  intro l D bs p e R s m args below meth c H locs cells slots ls C hW hz hS hl hc hn
  exact lv_iadd C.1 C.2.1 hd  (k l D bs p e R s m args below meth c H locs cells slots ls C hW hz hS hl hc hn)
theorem wp_isub {x y : Int32} (hd : decode M.2.1 pc = .ok (.isub, 1))  (k : Wp d M (pc + 1) P sz L (.int (x - y) :: st) o) : Wp d M pc P sz L (.int y :: .int x :: st) o := by
  intro l D bs p e R s m args below meth c H locs cells slots ls C hW hz hS hl hc hn
  exact lv_isub C.1 C.2.1 hd  (k l D bs p e R s m args below meth c H locs cells slots ls C hW hz hS hl hc hn)
theorem wp_imul {x y : Int32} (hd : decode M.2.1 pc = .ok (.imul, 1))  (k : Wp d M (pc + 1) P sz L (.int (x * y) :: st) o) : Wp d M pc P sz L (.int y :: .int x :: st) o := by
  intro l D bs p e R s m args below meth c H locs cells slots ls C hW hz hS hl hc hn
  exact lv_imul C.1 C.2.1 hd  (k l D bs p e R s m args below meth c H locs cells slots ls C hW hz hS hl hc hn)
theorem wp_iand {x y : Int32} (hd : decode M.2.1 pc = .ok (.iand, 1))  (k : Wp d M (pc + 1) P sz L (.int (x &&& y) :: st) o) : Wp d M pc P sz L (.int y :: .int x :: st) o := by
  intro l D bs p e R s m args below meth c H locs cells slots ls C hW hz hS hl hc hn
  exact lv_iand C.1 C.2.1 hd  (k l D bs p e R s m args below meth c H locs cells slots ls C hW hz hS hl hc hn)
theorem wp_ior {x y : Int32} (hd : decode M.2.1 pc = .ok (.ior, 1))  (k : Wp d M (pc + 1) P sz L (.int (x ||| y) :: st) o) : Wp d M pc P sz L (.int y :: .int x :: st) o := by
  intro l D bs p e R s m args below meth c H locs cells slots ls C hW hz hS hl hc hn
  exact lv_ior C.1 C.2.1 hd  (k l D bs p e R s m args below meth c H locs cells slots ls C hW hz hS hl hc hn)
theorem wp_ishl {x y : Int32} (hd : decode M.2.1 pc = .ok (.ishl, 1))  (k : Wp d M (pc + 1) P sz L (.int (x <<< (y &&& 31)) :: st) o) : Wp d M pc P sz L (.int y :: .int x :: st) o := by
  intro l D bs p e R s m args below meth c H locs cells slots ls C hW hz hS hl hc hn
  exact lv_ishl C.1 C.2.1 hd  (k l D bs p e R s m args below meth c H locs cells slots ls C hW hz hS hl hc hn)
theorem wp_ishr {x y : Int32} (hd : decode M.2.1 pc = .ok (.ishr, 1))  (k : Wp d M (pc + 1) P sz L (.int (x >>> (y &&& 31)) :: st) o) : Wp d M pc P sz L (.int y :: .int x :: st) o := by
  intro l D bs p e R s m args below meth c H locs cells slots ls C hW hz hS hl hc hn
  exact lv_ishr C.1 C.2.1 hd  (k l D bs p e R s m args below meth c H locs cells slots ls C hW hz hS hl hc hn)
theorem wp_idiv {x y : Int32} (hd : decode M.2.1 pc = .ok (.idiv, 1)) (hne : ¬ y = 0) (k : Wp d M (pc + 1) P sz L (.int (x / y) :: st) o) : Wp d M pc P sz L (.int y :: .int x :: st) o := by
  intro l D bs p e R s m args below meth c H locs cells slots ls C hW hz hS hl hc hn
  exact lv_idiv C.1 C.2.1 hd hne (k l D bs p e R s m args below meth c H locs cells slots ls C hW hz hS hl hc hn)
theorem wp_iushr {x y v : Int32} (hd : decode M.2.1 pc = .ok (.iushr, 1)) (hv : (x.toUInt32 >>> (y.toUInt32 &&& Int32.toUInt32 31)).toInt32 = v) (k : Wp d M (pc + 1) P sz L (.int v :: st) o) : Wp d M pc P sz L (.int y :: .int x :: st) o := by
  intro l D bs p e R s m args below meth c H locs cells slots ls C hW hz hS hl hc hn
  exact lv_iushr C.1 C.2.1 hd hv (k l D bs p e R s m args below meth c H locs cells slots ls C hW hz hS hl hc hn)
theorem wp_land {x y : Int64} (hd : decode M.2.1 pc = .ok (.land, 1))  (k : Wp d M (pc + 1) P sz L (.long (x &&& y) :: st) o) : Wp d M pc P sz L (.long y :: .long x :: st) o := by
  intro l D bs p e R s m args below meth c H locs cells slots ls C hW hz hS hl hc hn
  exact lv_land C.1 C.2.1 hd  (k l D bs p e R s m args below meth c H locs cells slots ls C hW hz hS hl hc hn)
theorem wp_lor {x y : Int64} (hd : decode M.2.1 pc = .ok (.lor, 1))  (k : Wp d M (pc + 1) P sz L (.long (x ||| y) :: st) o) : Wp d M pc P sz L (.long y :: .long x :: st) o := by
  intro l D bs p e R s m args below meth c H locs cells slots ls C hW hz hS hl hc hn
  exact lv_lor C.1 C.2.1 hd  (k l D bs p e R s m args below meth c H locs cells slots ls C hW hz hS hl hc hn)
theorem wp_lxor {x y : Int64} (hd : decode M.2.1 pc = .ok (.lxor, 1))  (k : Wp d M (pc + 1) P sz L (.long (x ^^^ y) :: st) o) : Wp d M pc P sz L (.long y :: .long x :: st) o := by
  intro l D bs p e R s m args below meth c H locs cells slots ls C hW hz hS hl hc hn
  exact lv_lxor C.1 C.2.1 hd  (k l D bs p e R s m args below meth c H locs cells slots ls C hW hz hS hl hc hn)
theorem wp_lushr {x v : Int64} {y : Int32} (hd : decode M.2.1 pc = .ok (.lushr, 1)) (hv : (x.toUInt64 >>> (y.toInt64.toUInt64 &&& Int64.toUInt64 63)).toInt64 = v) (k : Wp d M (pc + 1) P sz L (.long v :: st) o) : Wp d M pc P sz L (.int y :: .long x :: st) o := by
  intro l D bs p e R s m args below meth c H locs cells slots ls C hW hz hS hl hc hn
  exact lv_lushr C.1 C.2.1 hd hv (k l D bs p e R s m args below meth c H locs cells slots ls C hW hz hS hl hc hn)
theorem wp_lshl {x v : Int64} {y : Int32} (hd : decode M.2.1 pc = .ok (.lshl, 1)) (hv : x <<< (y.toInt64 &&& 63) = v) (k : Wp d M (pc + 1) P sz L (.long v :: st) o) : Wp d M pc P sz L (.int y :: .long x :: st) o := by
  intro l D bs p e R s m args below meth c H locs cells slots ls C hW hz hS hl hc hn
  exact lv_lshl C.1 C.2.1 hd hv (k l D bs p e R s m args below meth c H locs cells slots ls C hW hz hS hl hc hn)
theorem wp_i2l {x : Int32} {v : Int64} (hd : decode M.2.1 pc = .ok (.i2l, 1)) (hv : x.toInt64 = v) (k : Wp d M (pc + 1) P sz L (.long v :: st) o) : Wp d M pc P sz L (.int x :: st) o := by
  intro l D bs p e R s m args below meth c H locs cells slots ls C hW hz hS hl hc hn
  exact lv_i2l C.1 C.2.1 hd hv (k l D bs p e R s m args below meth c H locs cells slots ls C hW hz hS hl hc hn)
theorem wp_i2b {x v : Int32} (hd : decode M.2.1 pc = .ok (.i2b, 1)) (hv : x.toInt8.toInt32 = v) (k : Wp d M (pc + 1) P sz L (.int v :: st) o) : Wp d M pc P sz L (.int x :: st) o := by
  intro l D bs p e R s m args below meth c H locs cells slots ls C hW hz hS hl hc hn
  exact lv_i2b C.1 C.2.1 hd hv (k l D bs p e R s m args below meth c H locs cells slots ls C hW hz hS hl hc hn)
theorem wp_dup {va : Value} (hd : decode M.2.1 pc = .ok (.dup, 1)) (hva : va.category = 1) (k : Wp d M (pc + 1) P sz L (va :: va :: st) o) : Wp d M pc P sz L (va :: st) o := by
  intro l D bs p e R s m args below meth c H locs cells slots ls C hW hz hS hl hc hn
  exact lv_dup C.1 C.2.1 hd hva (k l D bs p e R s m args below meth c H locs cells slots ls C hW hz hS hl hc hn)
theorem wp_pop {va : Value} (hd : decode M.2.1 pc = .ok (.pop, 1)) (hva : va.category = 1) (k : Wp d M (pc + 1) P sz L (st) o) : Wp d M pc P sz L (va :: st) o := by
  intro l D bs p e R s m args below meth c H locs cells slots ls C hW hz hS hl hc hn
  exact lv_pop C.1 C.2.1 hd hva (k l D bs p e R s m args below meth c H locs cells slots ls C hW hz hS hl hc hn)
theorem wp_dup2 {va vb : Value} (hd : decode M.2.1 pc = .ok (.dup2, 1)) (hva : va.category = 1) (hvb : vb.category = 1) (k : Wp d M (pc + 1) P sz L (va :: vb :: va :: vb :: st) o) : Wp d M pc P sz L (va :: vb :: st) o := by
  intro l D bs p e R s m args below meth c H locs cells slots ls C hW hz hS hl hc hn
  exact lv_dup2_11 C.1 C.2.1 hd hva hvb (k l D bs p e R s m args below meth c H locs cells slots ls C hW hz hS hl hc hn)
theorem wp_if_eq {x : Int32} {off : Int} {tgt : Nat} (hd : decode M.2.1 pc = .ok (.ifCond .eq off, 3)) (ht : (pc : Int) + off = (tgt : Int)) (kt : x = 0 → Wp d M tgt P sz L st o) (kf : ¬ x = 0 → Wp d M (pc + 3) P sz L st o) : Wp d M pc P sz L (.int x :: st) o := by
  intro l D bs p e R s m args below meth c H locs cells slots ls C hW hz hS hl hc hn
  exact lv_if_eq C.1 C.2.1 hd ht (fun h => kt h l D bs p e R s m args below meth c H locs cells slots ls C hW hz hS hl hc hn) (fun h => kf h l D bs p e R s m args below meth c H locs cells slots ls C hW hz hS hl hc hn)
theorem wp_icmp_eq {x y : Int32} {off : Int} {tgt : Nat} (hd : decode M.2.1 pc = .ok (.if_icmp .eq off, 3)) (ht : (pc : Int) + off = (tgt : Int)) (kt : x = y → Wp d M tgt P sz L st o) (kf : ¬ x = y → Wp d M (pc + 3) P sz L st o) : Wp d M pc P sz L (.int y :: .int x :: st) o := by
  intro l D bs p e R s m args below meth c H locs cells slots ls C hW hz hS hl hc hn
  exact lv_icmp_eq C.1 C.2.1 hd ht (fun h => kt h l D bs p e R s m args below meth c H locs cells slots ls C hW hz hS hl hc hn) (fun h => kf h l D bs p e R s m args below meth c H locs cells slots ls C hW hz hS hl hc hn)
theorem wp_if_ne {x : Int32} {off : Int} {tgt : Nat} (hd : decode M.2.1 pc = .ok (.ifCond .ne off, 3)) (ht : (pc : Int) + off = (tgt : Int)) (kt : ¬ x = 0 → Wp d M tgt P sz L st o) (kf : x = 0 → Wp d M (pc + 3) P sz L st o) : Wp d M pc P sz L (.int x :: st) o := by
  intro l D bs p e R s m args below meth c H locs cells slots ls C hW hz hS hl hc hn
  exact lv_if_ne C.1 C.2.1 hd ht (fun h => kt h l D bs p e R s m args below meth c H locs cells slots ls C hW hz hS hl hc hn) (fun h => kf h l D bs p e R s m args below meth c H locs cells slots ls C hW hz hS hl hc hn)
theorem wp_icmp_ne {x y : Int32} {off : Int} {tgt : Nat} (hd : decode M.2.1 pc = .ok (.if_icmp .ne off, 3)) (ht : (pc : Int) + off = (tgt : Int)) (kt : ¬ x = y → Wp d M tgt P sz L st o) (kf : x = y → Wp d M (pc + 3) P sz L st o) : Wp d M pc P sz L (.int y :: .int x :: st) o := by
  intro l D bs p e R s m args below meth c H locs cells slots ls C hW hz hS hl hc hn
  exact lv_icmp_ne C.1 C.2.1 hd ht (fun h => kt h l D bs p e R s m args below meth c H locs cells slots ls C hW hz hS hl hc hn) (fun h => kf h l D bs p e R s m args below meth c H locs cells slots ls C hW hz hS hl hc hn)
theorem wp_if_lt {x : Int32} {off : Int} {tgt : Nat} (hd : decode M.2.1 pc = .ok (.ifCond .lt off, 3)) (ht : (pc : Int) + off = (tgt : Int)) (kt : x < 0 → Wp d M tgt P sz L st o) (kf : ¬ x < 0 → Wp d M (pc + 3) P sz L st o) : Wp d M pc P sz L (.int x :: st) o := by
  intro l D bs p e R s m args below meth c H locs cells slots ls C hW hz hS hl hc hn
  exact lv_if_lt C.1 C.2.1 hd ht (fun h => kt h l D bs p e R s m args below meth c H locs cells slots ls C hW hz hS hl hc hn) (fun h => kf h l D bs p e R s m args below meth c H locs cells slots ls C hW hz hS hl hc hn)
theorem wp_icmp_lt {x y : Int32} {off : Int} {tgt : Nat} (hd : decode M.2.1 pc = .ok (.if_icmp .lt off, 3)) (ht : (pc : Int) + off = (tgt : Int)) (kt : x < y → Wp d M tgt P sz L st o) (kf : ¬ x < y → Wp d M (pc + 3) P sz L st o) : Wp d M pc P sz L (.int y :: .int x :: st) o := by
  intro l D bs p e R s m args below meth c H locs cells slots ls C hW hz hS hl hc hn
  exact lv_icmp_lt C.1 C.2.1 hd ht (fun h => kt h l D bs p e R s m args below meth c H locs cells slots ls C hW hz hS hl hc hn) (fun h => kf h l D bs p e R s m args below meth c H locs cells slots ls C hW hz hS hl hc hn)
theorem wp_if_ge {x : Int32} {off : Int} {tgt : Nat} (hd : decode M.2.1 pc = .ok (.ifCond .ge off, 3)) (ht : (pc : Int) + off = (tgt : Int)) (kt : 0 ≤ x → Wp d M tgt P sz L st o) (kf : ¬ 0 ≤ x → Wp d M (pc + 3) P sz L st o) : Wp d M pc P sz L (.int x :: st) o := by
  intro l D bs p e R s m args below meth c H locs cells slots ls C hW hz hS hl hc hn
  exact lv_if_ge C.1 C.2.1 hd ht (fun h => kt h l D bs p e R s m args below meth c H locs cells slots ls C hW hz hS hl hc hn) (fun h => kf h l D bs p e R s m args below meth c H locs cells slots ls C hW hz hS hl hc hn)
theorem wp_icmp_ge {x y : Int32} {off : Int} {tgt : Nat} (hd : decode M.2.1 pc = .ok (.if_icmp .ge off, 3)) (ht : (pc : Int) + off = (tgt : Int)) (kt : y ≤ x → Wp d M tgt P sz L st o) (kf : ¬ y ≤ x → Wp d M (pc + 3) P sz L st o) : Wp d M pc P sz L (.int y :: .int x :: st) o := by
  intro l D bs p e R s m args below meth c H locs cells slots ls C hW hz hS hl hc hn
  exact lv_icmp_ge C.1 C.2.1 hd ht (fun h => kt h l D bs p e R s m args below meth c H locs cells slots ls C hW hz hS hl hc hn) (fun h => kf h l D bs p e R s m args below meth c H locs cells slots ls C hW hz hS hl hc hn)
theorem wp_if_gt {x : Int32} {off : Int} {tgt : Nat} (hd : decode M.2.1 pc = .ok (.ifCond .gt off, 3)) (ht : (pc : Int) + off = (tgt : Int)) (kt : 0 < x → Wp d M tgt P sz L st o) (kf : ¬ 0 < x → Wp d M (pc + 3) P sz L st o) : Wp d M pc P sz L (.int x :: st) o := by
  intro l D bs p e R s m args below meth c H locs cells slots ls C hW hz hS hl hc hn
  exact lv_if_gt C.1 C.2.1 hd ht (fun h => kt h l D bs p e R s m args below meth c H locs cells slots ls C hW hz hS hl hc hn) (fun h => kf h l D bs p e R s m args below meth c H locs cells slots ls C hW hz hS hl hc hn)
theorem wp_icmp_gt {x y : Int32} {off : Int} {tgt : Nat} (hd : decode M.2.1 pc = .ok (.if_icmp .gt off, 3)) (ht : (pc : Int) + off = (tgt : Int)) (kt : y < x → Wp d M tgt P sz L st o) (kf : ¬ y < x → Wp d M (pc + 3) P sz L st o) : Wp d M pc P sz L (.int y :: .int x :: st) o := by
  intro l D bs p e R s m args below meth c H locs cells slots ls C hW hz hS hl hc hn
  exact lv_icmp_gt C.1 C.2.1 hd ht (fun h => kt h l D bs p e R s m args below meth c H locs cells slots ls C hW hz hS hl hc hn) (fun h => kf h l D bs p e R s m args below meth c H locs cells slots ls C hW hz hS hl hc hn)
theorem wp_if_le {x : Int32} {off : Int} {tgt : Nat} (hd : decode M.2.1 pc = .ok (.ifCond .le off, 3)) (ht : (pc : Int) + off = (tgt : Int)) (kt : x ≤ 0 → Wp d M tgt P sz L st o) (kf : ¬ x ≤ 0 → Wp d M (pc + 3) P sz L st o) : Wp d M pc P sz L (.int x :: st) o := by
  intro l D bs p e R s m args below meth c H locs cells slots ls C hW hz hS hl hc hn
  exact lv_if_le C.1 C.2.1 hd ht (fun h => kt h l D bs p e R s m args below meth c H locs cells slots ls C hW hz hS hl hc hn) (fun h => kf h l D bs p e R s m args below meth c H locs cells slots ls C hW hz hS hl hc hn)
theorem wp_icmp_le {x y : Int32} {off : Int} {tgt : Nat} (hd : decode M.2.1 pc = .ok (.if_icmp .le off, 3)) (ht : (pc : Int) + off = (tgt : Int)) (kt : x ≤ y → Wp d M tgt P sz L st o) (kf : ¬ x ≤ y → Wp d M (pc + 3) P sz L st o) : Wp d M pc P sz L (.int y :: .int x :: st) o := by
  intro l D bs p e R s m args below meth c H locs cells slots ls C hW hz hS hl hc hn
  exact lv_icmp_le C.1 C.2.1 hd ht (fun h => kt h l D bs p e R s m args below meth c H locs cells slots ls C hW hz hS hl hc hn) (fun h => kf h l D bs p e R s m args below meth c H locs cells slots ls C hW hz hS hl hc hn)
theorem wp_goto {off : Int} {tgt : Nat} (hd : decode M.2.1 pc = .ok (.goto off, 3)) (ht : (pc : Int) + off = (tgt : Int)) (k : Wp d M tgt P sz L st o) : Wp d M pc P sz L st o := by
  intro l D bs p e R s m args below meth c H locs cells slots ls C hW hz hS hl hc hn
  exact lv_goto C.1 C.2.1 hd ht (k l D bs p e R s m args below meth c H locs cells slots ls C hW hz hS hl hc hn)
theorem wp_ifnonnull {x : Nat} {off : Int} {tgt : Nat} (hd : decode M.2.1 pc = .ok (.ifnonnull off, 3)) (ht : (pc : Int) + off = (tgt : Int)) (k : Wp d M tgt P sz L st o) : Wp d M pc P sz L (.ref x :: st) o := by
  intro l D bs p e R s m args below meth c H locs cells slots ls C hW hz hS hl hc hn
  exact lv_ifnonnull C.1 C.2.1 hd ht (k l D bs p e R s m args below meth c H locs cells slots ls C hW hz hS hl hc hn)
theorem wp_ifnull {x : Nat} {off : Int} (hd : decode M.2.1 pc = .ok (.ifnull off, 3)) (k : Wp d M (pc + 3) P sz L st o) : Wp d M pc P sz L (.ref x :: st) o := by
  intro l D bs p e R s m args below meth c H locs cells slots ls C hW hz hS hl hc hn
  exact lv_ifnull C.1 C.2.1 hd (k l D bs p e R s m args below meth c H locs cells slots ls C hW hz hS hl hc hn)
theorem wp_ifnullN {off : Int} {tgt : Nat} (hd : decode M.2.1 pc = .ok (.ifnull off, 3)) (ht : (pc : Int) + off = (tgt : Int)) (k : Wp d M tgt P sz L st o) : Wp d M pc P sz L (.null :: st) o := by
  intro l D bs p e R s m args below meth c H locs cells slots ls C hW hz hS hl hc hn
  exact lv_ifnullN C.1 C.2.1 hd ht (k l D bs p e R s m args below meth c H locs cells slots ls C hW hz hS hl hc hn)
theorem wp_ifnonnullN {off : Int} (hd : decode M.2.1 pc = .ok (.ifnonnull off, 3)) (k : Wp d M (pc + 3) P sz L st o) : Wp d M pc P sz L (.null :: st) o := by
  intro l D bs p e R s m args below meth c H locs cells slots ls C hW hz hS hl hc hn
  exact lv_ifnonnullN C.1 C.2.1 hd (k l D bs p e R s m args below meth c H locs cells slots ls C hW hz hS hl hc hn)
theorem wp_tableOut {dflt lo hi : Int} {offs : Array Int} {len : Nat} {x : Int32} {tgt : Nat} (hd : decode M.2.1 pc = .ok (.tableswitch dflt lo hi offs, len)) (h : x.toInt < lo ∨ hi < x.toInt) (ht : (pc : Int) + dflt = (tgt : Int)) (k : Wp d M tgt P sz L st o) : Wp d M pc P sz L (.int x :: st) o := by
  intro l D bs p e R s m args below meth c H locs cells slots ls C hW hz hS hl hc hn
  exact lv_tableOut C.1 C.2.1 hd h ht (k l D bs p e R s m args below meth c H locs cells slots ls C hW hz hS hl hc hn)
theorem wp_tableIn {dflt lo hi : Int} {offs : Array Int} {len : Nat} {x : Int32} {off : Int} {tgt : Nat} (hd : decode M.2.1 pc = .ok (.tableswitch dflt lo hi offs, len)) (h1 : ¬ x.toInt < lo) (h2 : ¬ hi < x.toInt) (ho : offs[(x.toInt - lo).toNat]? = some off) (ht : (pc : Int) + off = (tgt : Int)) (k : Wp d M tgt P sz L st o) : Wp d M pc P sz L (.int x :: st) o := by
  intro l D bs p e R s m args below meth c H locs cells slots ls C hW hz hS hl hc hn
  exact lv_tableIn C.1 C.2.1 hd h1 h2 ho ht (k l D bs p e R s m args below meth c H locs cells slots ls C hW hz hS hl hc hn)
theorem wp_ldc {ix : Nat} {v : Int32} (hd : decode M.2.1 pc = .ok (.ldc ix, 2)) (hw : Cond.constant M.1.cls ix v ∈ pWW) (k : Wp d M (pc + 2) P sz L (.int v :: st) o) : Wp d M pc P sz L (st) o := by
  intro l D bs p e R s m args below meth c H locs cells slots ls C hW hz hS hl hc hn
  exact lv_ldc C.1 C.2.1 (pC_own C) (pC_word C hw) hd  (k l D bs p e R s m args below meth c H locs cells slots ls C hW hz hS hl hc hn)
theorem wp_ldc2 {ix : Nat} {v : Int64} (hd : decode M.2.1 pc = .ok (.ldc2_w ix, 3)) (hw : Cond.constantLong M.1.cls ix v ∈ pWW) (k : Wp d M (pc + 3) P sz L (.long v :: st) o) : Wp d M pc P sz L (st) o := by
  intro l D bs p e R s m args below meth c H locs cells slots ls C hW hz hS hl hc hn
  exact lv_ldc2 C.1 C.2.1 (pC_own C) (pC_word C hw) hd  (k l D bs p e R s m args below meth c H locs cells slots ls C hW hz hS hl hc hn)
end WPR
section WPH
variable {d : Nat} {M : MT} {pc : Nat} {P : PH} {sz : Nat} {L : List (Nat × Value)} {st : List Value} {o : Option Value × PH × Nat × Nat} {a : Nat}
theorem wp_get {ci k ix N : Nat} {CN : String} {T : u_T} {fs : List Value} {v : Value} (hd : decode M.2.1 pc = .ok (.getfield ix, 3)) (hq : vwCl[ci]? = some (CN, T, N)) (hlay : ∀ w ∈ u_ws CN T N, w ∈ pWW) (hk : k < N) (hlink : Cond.fieldLink M.1.cls ix (T k).1 (T k).2.1 (T k).2.2.1 ∈ pWW) (hP : P a = some (.inr (ci, fs))) (hv : fs[k]? = some v) (kk : Wp d M (pc + 3) P sz L (v :: st) o) : Wp d M pc P sz L (.ref a :: st) o := by
  intro l D bs p e R s m args below meth c H locs cells slots ls C hW hz hS hl hc hn
  exact va_get (Ts := pWW) (ci := ci) C.1 C.2.1 (fun w hw => pC_word C hw) hlay (pC_own C) (pC_K C) (pone (hW a _ hP).2.1) 0 rfl hq k hk (pC_word C hlink) (fun _ h9 => h9) hv hd (kk l D bs p e R s m args below meth c H locs cells slots ls C hW hz hS hl hc hn)
theorem wp_put {ci k ix N : Nat} {CN : String} {T : u_T} {fs : List Value} {v : Value} {ty : FieldType} (ty0 : Nat → FieldType) (hty : ∀ k, k < N → parseFieldDescriptor (T k).2.2.1 = some (ty0 k)) (hnm : ∀ a, a < N → ∀ b, b < N → a ≠ b → (T a).2.1 ≠ (T b).2.1) (hd : decode M.2.1 pc = .ok (.putfield ix, 3)) (hq : vwCl[ci]? = some (CN, T, N)) (hlay : ∀ w ∈ u_ws CN T N, w ∈ pWW) (hk : k < N) (hlink : Cond.fieldLink M.1.cls ix (T k).1 (T k).2.1 (T k).2.2.1 ∈ pWW) (hfin : (T k).2.2.2 = false) (hds : parseFieldDescriptor (T k).2.2.1 = some ty) (hnr : narrow ty v = v) (hfit : fits ty v = true) (hP : P a = some (.inr (ci, fs))) (kk : Wp d M (pc + 3) (pS P a (.inr (ci, fs.set k v))) sz L st o) : Wp d M pc P sz L (v :: .ref a :: st) o := by
  intro l D bs p e R s m args below meth c H locs cells slots ls C hW hz hS hl hc hn
  have hts : ∀ w ∈ pWW, w.before args s = true := fun w hw => pC_word C hw
  have hK := pC_K C
  have hap := va_apart (own := M.1.cls) hts hlay ty0 hty hnm hK hq
  obtain ⟨hba, ⟨⟨r2, h1, cell, q1, q2, q3, q4⟩, r3, h3, h5⟩⟩ := hW a _ hP
  have hr2 : r2 = (CN, T, N) := Option.some.inj (h1.symm.trans hq)
  subst hr2
  have hr3 : r3 = (CN, T, N) := Option.some.inj (h3.symm.trans hq)
  subst hr3
  obtain ⟨hSl, hfc, kC, hkC, hkind⟩ := hK.1 ci _ hq
  obtain ⟨cf, kf, fi, f, hi, hsl⟩ := hSl k hk
  have hlay2 := hts _ (hlay _ (u_in_lay hk))
  unfold u_lay at hlay2
  rw [if_neg (by rw [hfin]; decide)] at hlay2
  have hst := (u_facts hfc hkC (u_lays hts hlay hk) hi).1
  have h6 := u_store hfc hkC hkind hlay2 hi hds hnr hfit
  have hl9 : k < fs.length := by rw [h5]; exact hk
  refine W.putK C.1 C.2.1 (f := f) ⟨pC_own C, pC_word C hlink, ⟨_, _, _, hi⟩, hst⟩ (by rw [q2]; exact h6) q1 q3 (by rw [hsl]; exact k2_hasslot (q4 k hk)) rfl rfl hd fun H1 d1 d2 d3 => ?_
  rw [hsl] at d1 ⊢
  exact kk l D bs p e R s m args below meth c H1 _ cells slots ls C (hW.put hba ⟨⟨(CN, T, N), hq, t_OB.to (V := updV (vp_V fs) k v) ⟨_, d1, q2, q3, t_set q4 hap hk v⟩ (fun j _ => vp_updV_set hl9 v j)⟩, (CN, T, N), hq, by rw [List.length_set]; exact h5⟩ d3) (d2.trans hz) (hS.put d2 d3 hba) hl hc hn
theorem wp_putF {ci k ix N : Nat} {CN : String} {T : u_T} {fs : List Value} {v : Value} {ty : FieldType} (ty0 : Nat → FieldType) (hty : ∀ k, k < N → parseFieldDescriptor (T k).2.2.1 = some (ty0 k)) (hnm : ∀ a, a < N → ∀ b, b < N → a ≠ b → (T a).2.1 ≠ (T b).2.1) (hd : decode M.2.1 pc = .ok (.putfield ix, 3)) (hq : vwCl[ci]? = some (CN, T, N)) (hlay : ∀ w ∈ u_ws CN T N, w ∈ pWW) (hk : k < N) (hlink : Cond.fieldLink M.1.cls ix (T k).1 (T k).2.1 (T k).2.2.1 ∈ pWW) (hfin : (T k).2.2.2 = true) (hini : M.1.name = "<init>") (hdc : (T k).1 = M.1.cls) (hds : parseFieldDescriptor (T k).2.2.1 = some ty) (hnr : narrow ty v = v) (hfit : fits ty v = true) (hP : P a = some (.inr (ci, fs))) (kk : Wp d M (pc + 3) (pS P a (.inr (ci, fs.set k v))) sz L st o) : Wp d M pc P sz L (v :: .ref a :: st) o := by
  intro l D bs p e R s m args below meth c H locs cells slots ls C hW hz hS hl hc hn
  have hts : ∀ w ∈ pWW, w.before args s = true := fun w hw => pC_word C hw
  have hK := pC_K C
  have hap := va_apart (own := M.1.cls) hts hlay ty0 hty hnm hK hq
  obtain ⟨hba, ⟨⟨r2, h1, cell, q1, q2, q3, q4⟩, r3, h3, h5⟩⟩ := hW a _ hP
  have hr2 : r2 = (CN, T, N) := Option.some.inj (h1.symm.trans hq)
  subst hr2
  have hr3 : r3 = (CN, T, N) := Option.some.inj (h3.symm.trans hq)
  subst hr3
  obtain ⟨hSl, hfc, kC, hkC, hkind⟩ := hK.1 ci _ hq
  obtain ⟨cf, kf, fi, f, hi, hsl⟩ := hSl k hk
  have hlay2 := hts _ (hlay _ (u_in_lay hk))
  unfold u_lay at hlay2
  rw [if_pos hfin] at hlay2
  have hst := (u_facts hfc hkC (u_lays hts hlay hk) hi).1
  have hcf : m.cls = cf := by
    obtain ⟨_, _, c', _, _, _, -, -, hf', -, -, -, hown2, -⟩ := Cond.laysFinal_spec hlay2
    have e1 : c' = cf := by have := hi.symm.trans hf'; simp at this; exact this.1.symm
    rw [hdc] at hown2
    rw [← e1]; exact Option.some.inj ((pC_own C).symm.trans hown2)
  have h6 := u_fits hfc hkC hkind (Or.inr hlay2) hi hds hnr hfit
  have hl9 : k < fs.length := by rw [h5]; exact hk
  refine W.putFinK C.1 C.2.1 (pC_own C) (pC_word C hlink) hi hst hcf (C.2.2.2.2.2.2.2.2.2.2.2.trans hini) (by rw [q2]; exact h6) q1 q3 (by rw [hsl]; exact k2_hasslot (q4 k hk)) rfl rfl hd fun H1 d1 d2 d3 => ?_
  rw [hsl] at d1 ⊢
  exact kk l D bs p e R s m args below meth c H1 _ cells slots ls C (hW.put hba ⟨⟨(CN, T, N), hq, t_OB.to (V := updV (vp_V fs) k v) ⟨_, d1, q2, q3, t_set q4 hap hk v⟩ (fun j _ => vp_updV_set hl9 v j)⟩, (CN, T, N), hq, by rw [List.length_set]; exact h5⟩ d3) (d2.trans hz) (hS.put d2 d3 hba) hl hc hn
theorem wp_iald {n : Nat} {f : Nat → Int32} {i : Int32} (hd : decode M.2.1 pc = .ok (.iaload, 1)) (hP : P a = some (.inl (0, n, .inl f))) (hin : vp_in i n) (kk : Wp d M (pc + 1) P sz L (.int (f i.toNatClampNeg) :: st) o) : Wp d M pc P sz L (.int i :: .ref a :: st) o := by
  intro l D bs p e R s m args below meth c H locs cells slots ls C hW hz hS hl hc hn
  obtain ⟨-, cA, h1, h2⟩ := hW a _ hP
  exact va_iald C.1 C.2.1 (pK1 (pC_K C) h1) (pone (e0 := .inl (cA, n, .inl f)) h2) 0 0 rfl rfl hin hd (kk l D bs p e R s m args below meth c H locs cells slots ls C hW hz hS hl hc hn)
theorem wp_bald {n : Nat} {f : Nat → Int32} {i : Int32} (hd : decode M.2.1 pc = .ok (.baload, 1)) (hP : P a = some (.inl (1, n, .inl f))) (hin : vp_in i n) (kk : Wp d M (pc + 1) P sz L (.int (f i.toNatClampNeg) :: st) o) : Wp d M pc P sz L (.int i :: .ref a :: st) o := by
  intro l D bs p e R s m args below meth c H locs cells slots ls C hW hz hS hl hc hn
  obtain ⟨-, cA, h1, h2⟩ := hW a _ hP
  exact va_bald C.1 C.2.1 (pK1 (pC_K C) h1) (pone (e0 := .inl (cA, n, .inl f)) h2) 0 0 rfl rfl hin hd (kk l D bs p e R s m args below meth c H locs cells slots ls C hW hz hS hl hc hn)
theorem wp_zald {n : Nat} {f : Nat → Int32} {i : Int32} (hd : decode M.2.1 pc = .ok (.baload, 1)) (hP : P a = some (.inl (2, n, .inl f))) (hin : vp_in i n) (kk : Wp d M (pc + 1) P sz L (.int (f i.toNatClampNeg) :: st) o) : Wp d M pc P sz L (.int i :: .ref a :: st) o := by
  intro l D bs p e R s m args below meth c H locs cells slots ls C hW hz hS hl hc hn
  obtain ⟨-, cA, h1, h2⟩ := hW a _ hP
  exact va_zald C.1 C.2.1 (pK1 (pC_K C) h1) (pone (e0 := .inl (cA, n, .inl f)) h2) 0 0 rfl rfl hin hd (kk l D bs p e R s m args below meth c H locs cells slots ls C hW hz hS hl hc hn)
theorem wp_lald {n : Nat} {f : Nat → Int64} {i : Int32} (hd : decode M.2.1 pc = .ok (.laload, 1)) (hP : P a = some (.inl (3, n, .inr (.inl f)))) (hin : vp_in i n) (kk : Wp d M (pc + 1) P sz L (.long (f i.toNatClampNeg) :: st) o) : Wp d M pc P sz L (.int i :: .ref a :: st) o := by
  intro l D bs p e R s m args below meth c H locs cells slots ls C hW hz hS hl hc hn
  obtain ⟨-, cA, h1, h2⟩ := hW a _ hP
  exact va_lald C.1 C.2.1 (pK1 (pC_K C) h1) (pone (e0 := .inl (cA, n, .inr (.inl f))) h2) 0 0 rfl rfl hin hd (kk l D bs p e R s m args below meth c H locs cells slots ls C hW hz hS hl hc hn)
theorem wp_aald {n : Nat} {f : Nat → Option Nat} {i : Int32} (hd : decode M.2.1 pc = .ok (.aaload, 1)) (hP : P a = some (.inl (5, n, .inr (.inr (.inr (.inr f)))))) (hin : vp_in i n) (kk : Wp d M (pc + 1) P sz L (va_rf (f i.toNatClampNeg) :: st) o) : Wp d M pc P sz L (.int i :: .ref a :: st) o := by
  intro l D bs p e R s m args below meth c H locs cells slots ls C hW hz hS hl hc hn
  obtain ⟨-, cA, h1, h2⟩ := hW a _ hP
  exact va_aldq C.1 C.2.1 (pK1 (pC_K C) h1) (pone (e0 := .inl (cA, n, .inr (.inr (.inr (.inr f))))) h2) 0 0 rfl rfl hin hd (kk l D bs p e R s m args below meth c H locs cells slots ls C hW hz hS hl hc hn)
theorem wp_alen {x : Nat × vp_A} {v : Int32} (hd : decode M.2.1 pc = .ok (.arraylength, 1)) (hP : P a = some (.inl x)) (hv : Int32.ofNat x.2.1 = v) (kk : Wp d M (pc + 1) P sz L (.int v :: st) o) : Wp d M pc P sz L (.ref a :: st) o := by
  intro l D bs p e R s m args below meth c H locs cells slots ls C hW hz hS hl hc hn
  obtain ⟨-, cA, h1, h2⟩ := hW a _ hP
  exact va_alen C.1 C.2.1 (pK1 (pC_K C) h1) (pone (e0 := .inl (cA, x.2)) h2) 0 0 rfl rfl hv hd (kk l D bs p e R s m args below meth c H locs cells slots ls C hW hz hS hl hc hn)
theorem wp_iast {n : Nat} {f : Nat → Int32} {i x : Int32} (hd : decode M.2.1 pc = .ok (.iastore, 1)) (hP : P a = some (.inl (0, n, .inl f))) (hin : vp_in i n) (kk : Wp d M (pc + 1) (pS P a (.inl (0, n, .inl (upd f i.toNatClampNeg x)))) sz L st o) : Wp d M pc P sz L (.int x :: .int i :: .ref a :: st) o := by
  intro l D bs p e R s m args below meth c H locs cells slots ls C hW hz hS hl hc hn
  obtain ⟨hba, cA, h1, h2⟩ := hW a _ hP
  refine W.iast C.1 C.2.1 h2 (h1.1 n (fun j => .int (f j))) (fun q => by cases q) (by show ¬ (i < 0 ∨ (arrV _ _ _).slots.size ≤ _); rw [arrV_size]; exact hin) rfl rfl hd fun H1 e1 z oq => ?_
  refine kk l D bs p e R s m args below meth c H1 _ cells slots ls C (hW.put hba ⟨cA, h1, ?_⟩ oq) (z.trans hz) (hS.put z oq hba) hl hc hn
  have e2 : H1[a]? = some ((vp_cell cA (n, .inl f)).setSlot i.toNatClampNeg (.int x)) := e1
  rw [e2, vp_cell_i, vp_cell_i, arrV_store]
  congr 2
  funext q
  by_cases hq : q = i.toNatClampNeg
  · subst hq
    simp [updV, upd]
  · simp [updV, upd, hq]
theorem wp_bast {n : Nat} {f : Nat → Int32} {i x : Int32} (hd : decode M.2.1 pc = .ok (.bastore, 1)) (hP : P a = some (.inl (1, n, .inl f))) (hin : vp_in i n) (kk : Wp d M (pc + 1) (pS P a (.inl (1, n, .inl (upd f i.toNatClampNeg (vp_nar .byte x))))) sz L st o) : Wp d M pc P sz L (.int x :: .int i :: .ref a :: st) o := by
  intro l D bs p e R s m args below meth c H locs cells slots ls C hW hz hS hl hc hn
  obtain ⟨hba, cA, h1, h2⟩ := hW a _ hP
  refine W.bast C.1 C.2.1 h2 (h1.1 n (fun j => .int (f j))) (fun q => by cases q) (by show ¬ (i < 0 ∨ (arrV _ _ _).slots.size ≤ _); rw [arrV_size]; exact hin) rfl rfl hd fun H1 e1 z oq => ?_
  refine kk l D bs p e R s m args below meth c H1 _ cells slots ls C (hW.put hba ⟨cA, h1, ?_⟩ oq) (z.trans hz) (hS.put z oq hba) hl hc hn
  rw [e1, vp_cell_i, vp_cell_i, arrV_store]
  congr 2
  funext q
  by_cases hq : q = i.toNatClampNeg
  · subst hq
    simp [updV, upd, vp_nar]
    try rfl
  · simp [updV, upd, hq]
theorem wp_zast {n : Nat} {f : Nat → Int32} {i x : Int32} (hd : decode M.2.1 pc = .ok (.bastore, 1)) (hP : P a = some (.inl (2, n, .inl f))) (hin : vp_in i n) (kk : Wp d M (pc + 1) (pS P a (.inl (2, n, .inl (upd f i.toNatClampNeg (vp_nar .boolean x))))) sz L st o) : Wp d M pc P sz L (.int x :: .int i :: .ref a :: st) o := by
  intro l D bs p e R s m args below meth c H locs cells slots ls C hW hz hS hl hc hn
  obtain ⟨hba, cA, h1, h2⟩ := hW a _ hP
  refine W.zast C.1 C.2.1 h2 (h1.1 n (fun j => .int (f j))) (fun q => by cases q) (by show ¬ (i < 0 ∨ (arrV _ _ _).slots.size ≤ _); rw [arrV_size]; exact hin) rfl rfl hd fun H1 e1 z oq => ?_
  refine kk l D bs p e R s m args below meth c H1 _ cells slots ls C (hW.put hba ⟨cA, h1, ?_⟩ oq) (z.trans hz) (hS.put z oq hba) hl hc hn
  rw [e1, vp_cell_i, vp_cell_i, arrV_store]
  congr 2
  funext q
  by_cases hq : q = i.toNatClampNeg
  · subst hq
    simp [updV, upd, vp_nar]
    try rfl
  · simp [updV, upd, hq]
theorem wp_last {n : Nat} {f : Nat → Int64} {i : Int32} {x : Int64} (hd : decode M.2.1 pc = .ok (.lastore, 1)) (hP : P a = some (.inl (3, n, .inr (.inl f)))) (hin : vp_in i n) (kk : Wp d M (pc + 1) (pS P a (.inl (3, n, .inr (.inl (vp_updL f i.toNatClampNeg x))))) sz L st o) : Wp d M pc P sz L (.long x :: .int i :: .ref a :: st) o := by
  intro l D bs p e R s m args below meth c H locs cells slots ls C hW hz hS hl hc hn
  obtain ⟨hba, cA, h1, h2⟩ := hW a _ hP
  refine W.last C.1 C.2.1 h2 (h1.1 n (fun j => .long (f j))) (fun q => by cases q) (by show ¬ (i < 0 ∨ (arrV _ _ _).slots.size ≤ _); rw [arrV_size]; exact hin) rfl rfl hd fun H1 e1 z oq => ?_
  refine kk l D bs p e R s m args below meth c H1 _ cells slots ls C (hW.put hba ⟨cA, h1, ?_⟩ oq) (z.trans hz) (hS.put z oq hba) hl hc hn
  rw [e1, vp_cell_l, vp_cell_l, arrV_store]
  congr 2
  funext q
  by_cases hq : q = i.toNatClampNeg
  · subst hq
    simp [updV, vp_updL]
  · simp [updV, vp_updL, hq]
theorem wp_iret {v : Int32} (hr : M.2.2.2 = some .int) (hd : decode M.2.1 pc = .ok (.ireturn, 1)) : Wp d M pc P sz L [.int v] (some (.int v), P, sz, 0) := by
  intro l D bs p e R s m args below meth c H locs cells slots ls C hW hz hS hl hc hn
  have e1 : cells = R.cells := by simpa using hc
  have e2 : slots = R.slots := by simpa using hn
  subst e1
  subst e2
  exact W.iret C.1 C.2.1 (C.2.2.2.1.trans hr) (fun t ht hWm => ⟨rfl, by rw [ht]; exact hz, by rw [ht]; exact hW.moved hWm.alike, hS.F ht⟩) hS.2.2 hd C.2.2.2.2.1
theorem wp_zret {v : Int32} {ty : FieldType} (hr : M.2.2.2 = some ty) (hnr : narrow ty (.int v) = .int v) (hd : decode M.2.1 pc = .ok (.ireturn, 1)) : Wp d M pc P sz L [.int v] (some (.int v), P, sz, 0) := by
  intro l D bs p e R s m args below meth c H locs cells slots ls C hW hz hS hl hc hn
  have e1 : cells = R.cells := by simpa using hc
  have e2 : slots = R.slots := by simpa using hn
  subst e1
  subst e2
  exact W.zret C.1 C.2.1 (C.2.2.2.1.trans hr) hnr (fun t ht hWm => ⟨rfl, by rw [ht]; exact hz, by rw [ht]; exact hW.moved hWm.alike, hS.F ht⟩) hS.2.2 hd C.2.2.2.2.1
theorem wp_vret (hr : M.2.2.2 = none) (hd : decode M.2.1 pc = .ok (.return_, 1)) : Wp d M pc P sz L [] (none, P, sz, 0) := by
  intro l D bs p e R s m args below meth c H locs cells slots ls C hW hz hS hl hc hn
  have e1 : cells = R.cells := by simpa using hc
  have e2 : slots = R.slots := by simpa using hn
  subst e1
  subst e2
  exact W.vret C.1 C.2.1 (C.2.2.2.1.trans hr) (fun t ht hWm => ⟨rfl, by rw [ht]; exact hz, by rw [ht]; exact hW.moved hWm.alike, hS.F ht⟩) hS.2.2 hd C.2.2.2.2.1
theorem wp_lret {v : Int64} (hr : M.2.2.2 = some .long) (hd : decode M.2.1 pc = .ok (.lreturn, 1)) : Wp d M pc P sz L [.long v] (some (.long v), P, sz, 0) := by
  intro l D bs p e R s m args below meth c H locs cells slots ls C hW hz hS hl hc hn
  have e1 : cells = R.cells := by simpa using hc
  have e2 : slots = R.slots := by simpa using hn
  subst e1
  subst e2
  exact W.lret C.1 C.2.1 (C.2.2.2.1.trans hr) (fun t ht hWm => ⟨rfl, by rw [ht]; exact hz, by rw [ht]; exact hW.moved hWm.alike, hS.F ht⟩) hS.2.2 hd C.2.2.2.2.1
theorem wp_aret {v : Value} {rt : FieldType} (hr : M.2.2.2 = some rt) (hrt : (∃ n, rt = .object n) ∨ ∃ t, rt = .array t) (hv : v = .null ∨ ∃ a, v = .ref a) (hd : decode M.2.1 pc = .ok (.areturn, 1)) : Wp d M pc P sz L [v] (some v, P, sz, 0) := by
  intro l D bs p e R s m args below meth c H locs cells slots ls C hW hz hS hl hc hn
  have e1 : cells = R.cells := by simpa using hc
  have e2 : slots = R.slots := by simpa using hn
  subst e1
  subst e2
  exact W.aret C.1 C.2.1 (C.2.2.2.1.trans hr) hrt hv (fun t ht hWm => ⟨rfl, by rw [ht]; exact hz, by rw [ht]; exact hW.moved hWm.alike, hS.F ht⟩) hS.2.2 hd C.2.2.2.2.1
theorem wp_objInit {ix : Nat} {x : Nat} (hd : decode M.2.1 pc = .ok (.invokespecial ix, 3)) (h1 : Cond.methodLink M.1.cls ix objectInit ∈ pWW) (h2 : Cond.instanceMethod objectInit ∈ pWW) (h3 : Cond.code objectInit ⟨#[0xb1]⟩ 1 none ∈ pWW) (hd1 : 0 < d) (hcat : (st.map fun v => v.category).sum ≤ 8) (kk : Wp d M (pc + 3) P sz L st o) : Wp d M pc P sz L (.ref x :: st) o := by
  intro l D bs p e R s m args below meth c H locs cells slots ls C hW hz hS hl hc hn
  refine W.objInit C.1 C.2.1 (pC_own C) (pC_word C h1) (pC_word C h2) (pC_word C h3) rfl (by rw [C.2.2.1]; exact hl.1) rfl hd (by rw [(pC_R C).1]; omega) (by rw [(pC_R C).2]; show 2 * 0 + _ + 12 ≤ _; omega) ?_
  exact kk l D bs p e R s m args below meth c H locs cells slots ls C hW hz hS hl hc hn
theorem wp_mmax {ix : Nat} {x y : Int32} (hd : decode M.2.1 pc = .ok (.invokestatic ix, 3)) (h1 : Cond.methodLink M.1.cls ix Lib.Math.max.name ∈ pWW) (h2 : Cond.static Lib.Math.max.name ∈ pWW) (h3 : Cond.initialized "java/lang/Math" ∈ pWW) (h4 : Cond.code Lib.Math.max.name Lib.Math.max.code 2 (some .int) ∈ pWW) (hd1 : 0 < d) (hcat : (st.map fun v => v.category).sum ≤ 8) (hm : sz ≤ o.2.2.1) (kk : Wp d M (pc + 3) P sz L (.int (if x < y then y else x) :: st) o) : Wp d M pc P sz L (.int y :: .int x :: st) o := by
  intro l D bs p e R s m args below meth c H locs cells slots ls C hW hz hS hl hc hn
  exact va_mmax C.1 C.2.1 (by rw [C.2.2.1]; exact hl.1.symm) (pC_own C) (pC_word C h1) (pC_word C h2) (pC_word C h3) (pC_word C h4) (by rw [(pC_R C).1]; omega) (by rw [(pC_R C).2]; omega) (by omega) (by omega) hd (kk l D bs p e R s m args below meth c H locs cells slots ls C hW hz hS hl hc hn)
theorem wp_mmin {ix : Nat} {x y : Int32} (hd : decode M.2.1 pc = .ok (.invokestatic ix, 3)) (h1 : Cond.methodLink M.1.cls ix Lib.Math.min.name ∈ pWW) (h2 : Cond.static Lib.Math.min.name ∈ pWW) (h3 : Cond.initialized "java/lang/Math" ∈ pWW) (h4 : Cond.code Lib.Math.min.name Lib.Math.min.code 2 (some .int) ∈ pWW) (hd1 : 0 < d) (hcat : (st.map fun v => v.category).sum ≤ 8) (hm : sz ≤ o.2.2.1) (kk : Wp d M (pc + 3) P sz L (.int (if y < x then y else x) :: st) o) : Wp d M pc P sz L (.int y :: .int x :: st) o := by
  intro l D bs p e R s m args below meth c H locs cells slots ls C hW hz hS hl hc hn
  exact va_mmin C.1 C.2.1 (by rw [C.2.2.1]; exact hl.1.symm) (pC_own C) (pC_word C h1) (pC_word C h2) (pC_word C h3) (pC_word C h4) (by rw [(pC_R C).1]; omega) (by rw [(pC_R C).2]; omega) (by omega) (by omega) hd (kk l D bs p e R s m args below meth c H locs cells slots ls C hW hz hS hl hc hn)
theorem wp_newa {atype : ArrayType} {tc : Nat} {n : Int32} {N : Nat} {a0 : vp_A} (hd : decode M.2.1 pc = .ok (.newarray atype, 2)) (hw : Cond.arrayClass (newarray.typeOf atype) ∈ pWW) (hty : newarray.typeOf atype = pTy tc) (ha : ∀ cA : ClassId, vp_cell cA a0 = arrV cA N (fun _ => defaultValue (newarray.typeOf atype))) (hneg : ¬ n < 0) (hN : n.toNatClampNeg = N) (hbytes : N * componentBytes (newarray.typeOf atype) ≤ 536870912) (hm : sz + 1 ≤ o.2.2.1) (kk : Wp d M (pc + 2) (pS P sz (.inl (tc, a0))) (sz + 1) L (.ref sz :: st) o) : Wp d M pc P sz L (.int n :: st) (o.1, o.2.1, o.2.2.1, N + o.2.2.2) := by
  intro l D bs p e R s m args below meth c H locs cells slots ls C hW hz hS hl hc hn
  dsimp only at hc hn
  subst hz
  refine va_newaK C.1 C.2.1 (pC_word C hw) rfl hd rfl hneg hN hbytes (by omega) (by omega) rfl fun H1 cA e1 z1 o1 hAr hNm => ?_
  refine kk l D bs p e R s m args below meth c H1 locs (cells + 1) (slots + N) ls C (hW.push (Nat.le_trans (pC_G C).2.1 hS.1) ⟨cA, ⟨by rw [← hty]; exact hAr, ?_⟩, by rw [ha]; exact e1⟩ o1) z1 ⟨Nat.le_trans hS.1 (by omega), fun x h1 h2 => (o1 x (Nat.lt_of_lt_of_le h1 hS.1)).trans (hS.2.1 x h1 h2), hS.2.2⟩ hl (by omega) (by omega)
  rw [← hty]
  cases atype <;> exact hNm
theorem wp_new {ci ix N : Nat} {C0 : String} {T : u_T} {fs : List Value} (ty : Nat → FieldType) (hty : ∀ k, k < N → parseFieldDescriptor (T k).2.2.1 = some (ty k)) (hd : decode M.2.1 pc = .ok (.new ix, 3)) (hq : vwCl[ci]? = some (C0, T, N)) (hlay : ∀ w ∈ u_ws C0 T N, w ∈ pWW) (h1 : Cond.classLink M.1.cls ix C0 ∈ pWW) (h2 : Cond.instantiable C0 N ∈ pWW) (h3 : Cond.initialized C0 ∈ pWW) (hfs : ∀ j, j < N → defaultValue (ty j) = vp_V fs j) (hfl : fs.length = N) (hm : sz + 1 ≤ o.2.2.1) (kk : Wp d M (pc + 3) (pS P sz (.inr (ci, fs))) (sz + 1) L (.ref sz :: st) o) : Wp d M pc P sz L st (o.1, o.2.1, o.2.2.1, N + o.2.2.2) := by
  intro l D bs p e R s m args below meth c H locs cells slots ls C hW hz hS hl hc hn
  dsimp only at hc hn
  subst hz
  have hts : ∀ w ∈ pWW, w.before args s = true := fun w hw => pC_word C hw
  have hKn := (pC_K C).1 ci _ hq
  refine W.newcK C.1 C.2.1 (pC_own C) (hts _ h1) (hts _ h2) (hts _ h3) rfl hd (by omega) (by omega) hKn.2.1 rfl fun H1 kC hkC e1 z1 o1 => ?_
  exact kk l D bs p e R s m args below meth c H1 locs (cells + 1) (slots + N) ls C (hW.push (Nat.le_trans (pC_G C).2.1 hS.1) ⟨⟨_, hq, (u_born ty hts hlay hKn hkC e1 hty).to hfs⟩, _, hq, hfl⟩ o1) z1 ⟨Nat.le_trans hS.1 (by omega), fun x h1 h2 => (o1 x (Nat.lt_of_lt_of_le h1 hS.1)).trans (hS.2.1 x h1 h2), hS.2.2⟩ hl (by omega) (by omega)
end WPH
def pPre (D : va_G) (bs : Nat) (P : PH) (sz : Nat) : State → Prop := fun U => U.heap.size = sz ∧ pW D bs P U U.heap ∧ va_K D vwCl [] U ∧ pG bs U
theorem pPre_blind {D : va_G} {bs : Nat} {P : PH} {sz : Nat} {av : List Value} : FrameBlind (va_Pc av (pPre D bs P sz)) := by
  intro a U g mk q
  obtain ⟨q0, q1, qW, qK, qG⟩ := q
  exact ⟨q0, q1, qW.moved (u := U) (U := U.calling g mk a) (Vm.Alike.refl U.vm), va_K.moved (u := U) (U := U.calling g mk a) (Vm.Alike.refl U.vm) qK, nst.same (u := U) (U := U.calling g mk a) rfl qG.1, qG.2⟩
abbrev pRm (d k n : Nat) : Room := { frames := d, cells := k, slots := n, locals := 64 * d }
theorem wp_met {d : Nat} {M : MT} {P : PH} {sz : Nat} {av : List Value} {L : List (Nat × Value)} {o : Option Value × PH × Nat × Nat} {k : Nat} (hy : plainName M.1.cls = true) (hL : lv_args 0 av = L) (hlen : (lg_sl av).length ≤ M.2.2.1) (hk : o.2.2.1 = sz + k) (h : Wp d M 0 P sz L [] o) (l : Launch) (D : va_G) (bs : Nat) : Met l M.1 (pWs M) (pRm d k o.2.2.2) (va_Pc av (pPre D bs P sz)) (pQ D bs o) k o.2.2.2 (pA bs) := by
  refine Met.ofW (cc := M.2.1) (maxL := M.2.2.1) (ret := M.2.2.2) hy rfl ?_
  intro p e s m args below meth c s₁ B hml hv
  obtain ⟨rfl, hsz, hPw, hK, hG⟩ := hv
  have hts := atoms_spec (ws := pWs M) B.pre
  have hl := lv_entry av (n := M.2.2.1) hlen
  rw [lg_entry_eq]
  generalize (lg_sl av ++ List.replicate (M.2.2.1 - (lg_sl av).length) Slot.unset).toArray = ls at hl ⊢
  exact h l D bs p e (pRm d k o.2.2.2) s m av.toArray below meth c s.heap [] 0 0 ls ⟨B.exec, B.bytes, hml, B.returns, B.notSynchronized, findClass_of_methodNamed B.named, fun w hw => hts w (List.mem_cons_of_mem _ hw), hK, hG, rfl, rfl, (name_of_methodNamed B.named B.method).1⟩ hPw hsz va_S.rf (by rw [← hL]; exact hl) (by rw [hk]; show 0 + (sz + k) = k + sz; omega) (Nat.zero_add _)
section WPC
variable {d : Nat} {M M' : MT} {pc : Nat} {P : PH} {sz : Nat} {L L1 : List (Nat × Value)} {rest As : List Value} {o1 o2 : Option Value × PH × Nat × Nat} {a : Nat}
theorem pcall {D : va_G} {bs : Nat} {l : Launch} {p : Program} {e : Env} {R : Room} {s : State} {m : MethodId} {args aa : Array Value} {below : List Frame} {meth : Method} {c : Code} {H : Heap} {locs : List Loc} {cells slots k1 : Nat} {ls : Array Slot} {st0 : List Value} (C : pCx D bs d M p R s m args meth c) (hz : H.size = sz) (hS : va_S (pA bs) s.heap H locs) (hl : lv_has ls M.2.2.1 L)
    (hr : va_Run p l e R s m args below meth c H locs cells slots k1 o1.2.2.2 (F0 m pc ls st0) rest (pQ D bs o1 aa) (pA bs)) (hk : o1.2.2.1 = sz + k1) (h2 : Wp d M (pc + 3) o1.2.1 o1.2.2.1 L (o1.1.toList ++ rest) o2) (hc : cells + o2.2.2.1 = R.cells + sz) (hn : slots + (o1.2.2.2 + o2.2.2.2) = R.slots) :
    W p l e R s m args below meth c H locs cells slots (MQ below (pQ D bs o2) args s R.cells R.slots (pA bs)) (F0 m pc ls st0) := by
  intro T hT X
  obtain ⟨v, st₀, t, T', L', h0, X', hL, e1, e2, ⟨hv, hsz, hPw, hF⟩, st⟩ := hr T hT X
  cases hv
  obtain ⟨hF1, hF2⟩ := hF
  rw [h0] at hF1 hF2
  have hvm : t.vm.Alike s.vm := by rw [← e2]; exact X'.warmed.alike.symm
  obtain ⟨t2, a1, b1⟩ := h2 l D bs p e R s m args below meth c T'.heap (locs ++ L') (cells + k1) (slots + o1.2.2.2) ls C (by rw [e1]; exact hPw.moved hvm) (by rw [e1]; exact hsz) ⟨Nat.le_trans hS.1 (by rw [e1]; exact hF1), fun q h1 h2 => by rw [e1, hF2 q (Nat.lt_of_lt_of_le h1 hS.1) h2]; exact hS.2.1 q h1 h2, fun q hq => by
      rcases List.mem_append.mp hq with h | h
      · exact hS.2.2 q h
      · exact hL q h⟩ hl (by omega) (by omega) T' rfl X'
  exact ⟨t2, st t2 a1, b1⟩
def pOk (M : MT) : Prop := (Cond.code M.1 M.2.1 M.2.2.1 M.2.2.2 ∈ pWW ∧ Cond.initialized M.1.cls ∈ pWW) ∧ plainName M.1.cls = true ∧ (M.1.cls ≠ "java/lang/invoke/MethodHandle" ∧ M.1.cls ≠ "java/lang/invoke/VarHandle") ∧ M.2.2.1 ≤ 40
theorem pPreS {D : va_G} {bs : Nat} {p : Program} {R : Room} {s : State} {m : MethodId} {args : Array Value} {meth : Method} {c : Code} {H : Heap} {locs : List Loc} {av : List Value} (C : pCx D bs d M p R s m args meth c) (hW : pW D bs P s H) (hz : H.size = sz) (hS : va_S (pA bs) s.heap H locs) : PreS s H (va_Pc av (pPre D bs P sz)) av :=
  ⟨pPre_blind, fun U hU hWm => ⟨rfl, by rw [hU]; exact hz, by rw [hU]; exact hW.moved hWm.alike, va_K.moved hWm.alike (pC_K C), (pC_G C).call hS hU hWm⟩⟩
theorem pPreV {D : va_G} {bs ci : Nat} {q : vw_C} {fs : List Value} {p : Program} {R : Room} {s : State} {m : MethodId} {args : Array Value} {meth : Method} {c : Code} {H : Heap} {locs : List Loc} {As : List Value} (C : pCx D bs d M p R s m args meth c) (hW : pW D bs P s H) (hz : H.size = sz) (hS : va_S (pA bs) s.heap H locs) (hq : vwCl[ci]? = some q) (hP : P a = some (.inr (ci, fs))) : PreV s H q.1 a (va_Pc (.ref a :: As) (pPre D bs P sz)) As :=
  ⟨pPre_blind, va_recv (q0 := 0) (pC_K C) (pone (hW a _ hP).2.1) hq rfl, fun U hU hWm => ⟨rfl, by rw [hU]; exact hz, by rw [hU]; exact hW.moved hWm.alike, va_K.moved hWm.alike (pC_K C), (pC_G C).call hS hU hWm⟩⟩
theorem pCB {k n : Nat} {D : va_G} {bs ix : Nat} {p : Program} {R : Room} {s : State} {m : MethodId} {args : Array Value} {meth : Method} {c : Code} (C : pCx D bs (d + 1) M p R s m args meth c) (hM : pOk M') (hlink : Cond.methodLink M.1.cls ix M'.1 ∈ pWW) (hn : (parseMethodDescriptor M'.1.desc).map (fun d => d.parameters.length) = some n) {k2 : Nat} : CallB R s args M.1.cls ix M'.1 M'.2.1 M'.2.2.1 M'.2.2.2 (pWs M') (pRm d k k2) k k2 n :=
  callB_of n (Ts := pWW) (fun w hw => pC_word C hw) (pWs_good hM.1.1) rfl rfl rfl (pC_word C hM.1.2) (pC_word C hlink) ⟨hM.2.2.1.1, hM.2.2.1.2, hn⟩ ⟨by rw [(pC_R C).1]; exact Nat.le_refl _, by rw [(pC_R C).2]; have h5 := hM.2.2.2; show 8 + (_ + 11) + 64 * d ≤ 64 * (d + 1); omega⟩
theorem pCN {k n : Nat} {D : va_G} {bs ix : Nat} {host : String} {p : Program} {R : Room} {s : State} {m : MethodId} {args : Array Value} {meth : Method} {c : Code} (C : pCx D bs (d + 1) M p R s m args meth c) (hM : pOk M') (hlink : (M.1.cls, ix, M'.1, host) ∈ nst_M) (hn : (parseMethodDescriptor M'.1.desc).map (fun d => d.parameters.length) = some n) {k2 : Nat} : va_CN R s args M.1.cls ix M'.1 host M'.2.1 M'.2.2.1 M'.2.2.2 (pWs M') (pRm d k k2) k k2 n :=
  va_cnB n (Ts := pWW) (fun w hw => pC_word C hw) (pWs_good hM.1.1) rfl rfl rfl ((pC_G C).1.1 _ hlink) (pC_word C hM.1.2) ⟨hM.2.2.1.1, hM.2.2.1.2, hn⟩ ⟨by rw [(pC_R C).1]; exact Nat.le_refl _, by rw [(pC_R C).2]; have h5 := hM.2.2.2; show 8 + (_ + 11) + 64 * d ≤ 64 * (d + 1); omega⟩
theorem wp_callS {ix : Nat} (hd : decode M.2.1 pc = .ok (.invokestatic ix, 3)) (hM : pOk M') (hst : Cond.static M'.1 ∈ pWW) (hlink : Cond.methodLink M.1.cls ix M'.1 ∈ pWW) (hnp : (parseMethodDescriptor M'.1.desc).map (fun d => d.parameters.length) = some As.length) (hL : lv_args 0 As = L1) (hlen : (lg_sl As).length ≤ M'.2.2.1) (hcat : (rest.map fun v => v.category).sum ≤ 8) (hm : sz ≤ o1.2.2.1) (hm2 : o1.2.2.1 ≤ o2.2.2.1) {st : List Value} (hst0 : st = As.reverse ++ rest) (h1 : Wp d M' 0 P sz L1 [] o1) (h2 : Wp (d + 1) M (pc + 3) o1.2.1 o1.2.2.1 L (o1.1.toList ++ rest) o2) : Wp (d + 1) M pc P sz L st (o2.1, o2.2.1, o2.2.2.1, o1.2.2.2 + o2.2.2.2) := by
  intro l D bs p e R s m args below meth c H locs cells slots ls C hW hz hS hl hc hn
  obtain ⟨k1, hk1⟩ : ∃ k1, o1.2.2.1 = sz + k1 := ⟨o1.2.2.1 - sz, by omega⟩
  dsimp only at hc hn
  exact pcall (o2 := o2) C hz hS hl (va_runS (Ts := pWW) (As := As) (rest := rest) ⟨C.1, C.2.1, C.2.2.1, pC_own C, fun w hw => pC_word C hw⟩ (wp_met hM.2.1 hL hlen hk1 h1 l D bs) ⟨pCB C hM hlink hnp, pC_word C hst⟩ (pPreS C hW hz hS) rfl rfl hl.1 hst0 (lv_room hcat) hd ⟨by omega, by omega⟩) hk1 h2 hc hn
theorem wp_callSN {ix : Nat} {host : String} (hd : decode M.2.1 pc = .ok (.invokestatic ix, 3)) (hM : pOk M') (hst : Cond.static M'.1 ∈ pWW) (hlink : (M.1.cls, ix, M'.1, host) ∈ nst_M) (hnp : (parseMethodDescriptor M'.1.desc).map (fun d => d.parameters.length) = some As.length) (hL : lv_args 0 As = L1) (hlen : (lg_sl As).length ≤ M'.2.2.1) (hcat : (rest.map fun v => v.category).sum ≤ 8) (hm : sz ≤ o1.2.2.1) (hm2 : o1.2.2.1 ≤ o2.2.2.1) {st : List Value} (hst0 : st = As.reverse ++ rest) (h1 : Wp d M' 0 P sz L1 [] o1) (h2 : Wp (d + 1) M (pc + 3) o1.2.1 o1.2.2.1 L (o1.1.toList ++ rest) o2) : Wp (d + 1) M pc P sz L st (o2.1, o2.2.1, o2.2.2.1, o1.2.2.2 + o2.2.2.2) := by
  intro l D bs p e R s m args below meth c H locs cells slots ls C hW hz hS hl hc hn
  obtain ⟨k1, hk1⟩ : ∃ k1, o1.2.2.1 = sz + k1 := ⟨o1.2.2.1 - sz, by omega⟩
  dsimp only at hc hn
  exact pcall (o2 := o2) C hz hS hl (va_runSN (Ts := pWW) (As := As) (rest := rest) ⟨C.1, C.2.1, C.2.2.1, pC_own C, fun w hw => pC_word C hw⟩ (wp_met hM.2.1 hL hlen hk1 h1 l D bs) ⟨pCN C hM hlink hnp, pC_word C hst, trivial⟩ (pPreS C hW hz hS) rfl rfl hl.1 hst0 (lv_room hcat) hd ⟨by omega, by omega⟩) hk1 h2 hc hn
theorem wp_callV {ix ci : Nat} {q : vw_C} {fs : List Value} (hd : decode M.2.1 pc = .ok (.invokevirtual ix, 3)) (hM : pOk M') (hin : Cond.instanceMethod M'.1 ∈ pWW) (hse : Cond.selects M'.1.cls M'.1 M'.1 ∈ pWW) (hlink : Cond.methodLink M.1.cls ix M'.1 ∈ pWW) (hnp : (parseMethodDescriptor M'.1.desc).map (fun d => d.parameters.length) = some As.length) (hq : vwCl[ci]? = some q) (hqc : q.1 = M'.1.cls) (hP : P a = some (.inr (ci, fs))) (hL : lv_args 0 (.ref a :: As) = L1) (hlen : (lg_sl (.ref a :: As)).length ≤ M'.2.2.1) (hcat : (rest.map fun v => v.category).sum ≤ 8) (hm : sz ≤ o1.2.2.1) (hm2 : o1.2.2.1 ≤ o2.2.2.1) {st : List Value} (hst0 : st = As.reverse ++ .ref a :: rest) (h1 : Wp d M' 0 P sz L1 [] o1) (h2 : Wp (d + 1) M (pc + 3) o1.2.1 o1.2.2.1 L (o1.1.toList ++ rest) o2) : Wp (d + 1) M pc P sz L st (o2.1, o2.2.1, o2.2.2.1, o1.2.2.2 + o2.2.2.2) := by
  intro l D bs p e R s m args below meth c H locs cells slots ls C hW hz hS hl hc hn
  obtain ⟨k1, hk1⟩ : ∃ k1, o1.2.2.1 = sz + k1 := ⟨o1.2.2.1 - sz, by omega⟩
  dsimp only at hc hn
  exact pcall (o2 := o2) C hz hS hl (va_runV (Ts := pWW) (C := q.1) (As := As) (rest := rest) ⟨C.1, C.2.1, C.2.2.1, pC_own C, fun w hw => pC_word C hw⟩ (wp_met hM.2.1 hL hlen hk1 h1 l D bs) ⟨pCB C hM hlink hnp, pC_word C hin, by rw [hqc]; exact pC_word C hse⟩ (pPreV C hW hz hS hq hP) rfl rfl hl.1 hst0 (lv_room hcat) hd ⟨by omega, by omega⟩) hk1 h2 hc hn
theorem wp_callI {ix : Nat} (hd : decode M.2.1 pc = .ok (.invokespecial ix, 3)) (hM : pOk M') (hret : M'.2.2.2 = none) (hnm : M'.1.name = "<init>") (hin : Cond.instanceMethod M'.1 ∈ pWW) (hlink : Cond.methodLink M.1.cls ix M'.1 ∈ pWW) (hnp : (parseMethodDescriptor M'.1.desc).map (fun d => d.parameters.length) = some As.length) (hL : lv_args 0 (.ref a :: As) = L1) (hlen : (lg_sl (.ref a :: As)).length ≤ M'.2.2.1) (hcat : (rest.map fun v => v.category).sum ≤ 8) (hm : sz ≤ o1.2.2.1) (hm2 : o1.2.2.1 ≤ o2.2.2.1) {st : List Value} (hst0 : st = As.reverse ++ .ref a :: rest) (h1 : Wp d M' 0 P sz L1 [] o1) (h2 : Wp (d + 1) M (pc + 3) o1.2.1 o1.2.2.1 L (o1.1.toList ++ rest) o2) : Wp (d + 1) M pc P sz L st (o2.1, o2.2.1, o2.2.2.1, o1.2.2.2 + o2.2.2.2) := by
  intro l D bs p e R s m args below meth c H locs cells slots ls C hW hz hS hl hc hn
  obtain ⟨k1, hk1⟩ : ∃ k1, o1.2.2.1 = sz + k1 := ⟨o1.2.2.1 - sz, by omega⟩
  dsimp only at hc hn
  have hCB := pCB (k := k1) (k2 := o1.2.2.2) C hM hlink hnp
  rw [hret] at hCB
  exact pcall (o2 := o2) C hz hS hl (va_runI (Ts := pWW) (As := As) (rest := rest) ⟨C.1, C.2.1, C.2.2.1, pC_own C, fun w hw => pC_word C hw⟩ (wp_met hM.2.1 hL hlen hk1 h1 l D bs) ⟨hCB, hnm, pC_word C hin⟩ (pPreS C hW hz hS) rfl rfl hl.1 hst0 (lv_room hcat) hd ⟨by omega, by omega⟩) hk1 h2 hc hn
theorem wp_callIN {ix : Nat} {host : String} (hd : decode M.2.1 pc = .ok (.invokespecial ix, 3)) (hM : pOk M') (hret : M'.2.2.2 = none) (hnm : M'.1.name = "<init>") (hin : Cond.instanceMethod M'.1 ∈ pWW) (hlink : (M.1.cls, ix, M'.1, host) ∈ nst_M) (hnp : (parseMethodDescriptor M'.1.desc).map (fun d => d.parameters.length) = some As.length) (hL : lv_args 0 (.ref a :: As) = L1) (hlen : (lg_sl (.ref a :: As)).length ≤ M'.2.2.1) (hcat : (rest.map fun v => v.category).sum ≤ 8) (hm : sz ≤ o1.2.2.1) (hm2 : o1.2.2.1 ≤ o2.2.2.1) {st : List Value} (hst0 : st = As.reverse ++ .ref a :: rest) (h1 : Wp d M' 0 P sz L1 [] o1) (h2 : Wp (d + 1) M (pc + 3) o1.2.1 o1.2.2.1 L (o1.1.toList ++ rest) o2) : Wp (d + 1) M pc P sz L st (o2.1, o2.2.1, o2.2.2.1, o1.2.2.2 + o2.2.2.2) := by
  intro l D bs p e R s m args below meth c H locs cells slots ls C hW hz hS hl hc hn
  obtain ⟨k1, hk1⟩ : ∃ k1, o1.2.2.1 = sz + k1 := ⟨o1.2.2.1 - sz, by omega⟩
  dsimp only at hc hn
  have hCN := pCN (k := k1) (k2 := o1.2.2.2) C hM hlink hnp
  rw [hret] at hCN
  exact pcall (o2 := o2) C hz hS hl (va_runIN (Ts := pWW) (As := As) (rest := rest) ⟨C.1, C.2.1, C.2.2.1, pC_own C, fun w hw => pC_word C hw⟩ (wp_met hM.2.1 hL hlen hk1 h1 l D bs) ⟨hCN, hnm, pC_word C hin⟩ (pPreS C hW hz hS) rfl rfl hl.1 hst0 (lv_room hcat) hd ⟨by omega, by omega⟩) hk1 h2 hc hn
end WPC
theorem wp_sub {d : Nat} {M : MT} {pc : Nat} {P : PH} {sz : Nat} {L L' : List (Nat × Value)} {st : List Value} {o : Option Value × PH × Nat × Nat} (ks : List Nat) (h : lv_pick L ks = L') (k : Wp d M pc P sz L' st o) : Wp d M pc P sz L st o := by
  intro l D bs p e R s m args below meth c H locs cells slots ls C hW hz hS hl hc hn
  exact k l D bs p e R s m args below meth c H locs cells slots ls C hW hz hS (lv_sub hl ks h) hc hn
theorem wp_lcmp {d : Nat} {M : MT} {pc : Nat} {P : PH} {sz : Nat} {L : List (Nat × Value)} {st : List Value} {o : Option Value × PH × Nat × Nat} {x y : Int64} (hd : decode M.2.1 pc = .ok (.lcmp, 1)) (k : Wp d M (pc + 1) P sz L (.int (lg_cmp x y) :: st) o) : Wp d M pc P sz L (.long y :: .long x :: st) o := by
  intro l D bs p e R s m args below meth c H locs cells slots ls C hW hz hS hl hc hn
  exact W.lcmp C.1 C.2.1 hd (k l D bs p e R s m args below meth c H locs cells slots ls C hW hz hS hl hc hn)
end
