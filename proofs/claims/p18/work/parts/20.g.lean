/-! THE LAW. Wl says: from this pc of the law, over this picture, with k cells and n slots made so far, the law comes to its end with 1. -/
def lC (D : va_G) (p : Program) (s : State) (m : MethodId) (meth : Method) (c : Code) (b n0 : Nat) (xs : Nat → Int32) : Prop := lw_At p s m meth c b n0 xs ∧ (∀ w ∈ pWW, w.before #[Value.ref b] s = true) ∧ va_K D vwCl [] s ∧ pG s.heap.size s
def Wl (b n0 : Nat) (xs : Nat → Int32) (pc : Nat) (P : PH) (sz k n : Nat) (L : List (Nat × Value)) (st : List Value) : Prop :=
  ∀ (l : Launch) (D : va_G) (p : Program) (e : Env) (s : State) (m : MethodId) (below : List Frame) (meth : Method) (c : Code) (H : Heap) (locs : List Loc) (ls : Array Slot),
    lC D p s m meth c b n0 xs → pW D s.heap.size P s H → H.size = sz → va_S (pA s.heap.size) s.heap H locs → lv_has ls 4 L →
    W p l e room_1 s m #[Value.ref b] below meth c H locs k n (lw_Z below #[Value.ref b] s) (F0 m pc ls st)
section LROW
variable {b n0 : Nat} {xs : Nat → Int32} {pc : Nat} {P : PH} {sz k n : Nat} {L : List (Nat × Value)} {st rest As : List Value}
theorem wl_iconst {nn : Int} {v : Int32} (hd : decode code pc = .ok (.iconst nn, 1)) (hv : Int32.ofInt nn = v) (kk : Wl b n0 xs (pc + 1) P sz k n L (.int v :: st)) : Wl b n0 xs pc P sz k n L (st) := by
  intro l D p e s m below meth c H locs ls C hW hz hS hl
  exact lv_iconst C.1.1 C.1.2.1 hd hv (kk l D p e s m below meth c H locs ls C hW hz hS hl)
theorem wl_bipush {nn : Int} {v : Int32} (hd : decode code pc = .ok (.bipush nn, 2)) (hv : (Int8.ofInt nn).toInt32 = v) (kk : Wl b n0 xs (pc + 2) P sz k n L (.int v :: st)) : Wl b n0 xs pc P sz k n L (st) := by
  intro l D p e s m below meth c H locs ls C hW hz hS hl
  exact lv_bipush C.1.1 C.1.2.1 hd hv (kk l D p e s m below meth c H locs ls C hW hz hS hl)
theorem wl_iload_n {kf : Fin 4} {i : Nat} {x : Int32} (hd : decode code pc = .ok (.iload_n kf, 1)) (hi : (kf : Nat) = i) (q : Nat) (hq : L[q]? = some (i, .int x)) (kk : Wl b n0 xs (pc + 1) P sz k n L (.int x :: st)) : Wl b n0 xs pc P sz k n L (st) := by
  intro l D p e s m below meth c H locs ls C hW hz hS hl
  exact lv_iload_n C.1.1 C.1.2.1 hd hi (lv_at hl q hq) (kk l D p e s m below meth c H locs ls C hW hz hS hl)
theorem wl_istore_n {kf : Fin 4} {i : Nat} {x : Int32} {L' : List (Nat × Value)} (hd : decode code pc = .ok (.istore_n kf, 1)) (hi : (kf : Nat) = i) (hm : i < 4) (hq : (i, Value.int x) :: L.filter (fun q => !(q.1 == i) && !(q.1 + 1 == i && q.2.category == 2)) = L') (kk : Wl b n0 xs (pc + 1) P sz k n L' st) : Wl b n0 xs pc P sz k n L (.int x :: st) := by
  intro l D p e s m below meth c H locs ls C hW hz hS hl
  exact lv_istore_n C.1.1 C.1.2.1 hd hi hl hm hq (fun ls2 hl2 => kk l D p e s m below meth c H locs ls2 C hW hz hS hl2)
theorem wl_aload_n {kf : Fin 4} {i : Nat} {x : Nat} (hd : decode code pc = .ok (.aload_n kf, 1)) (hi : (kf : Nat) = i) (q : Nat) (hq : L[q]? = some (i, .ref x)) (kk : Wl b n0 xs (pc + 1) P sz k n L (.ref x :: st)) : Wl b n0 xs pc P sz k n L (st) := by
  intro l D p e s m below meth c H locs ls C hW hz hS hl
  exact lv_aload_n C.1.1 C.1.2.1 hd hi (lv_at hl q hq) (kk l D p e s m below meth c H locs ls C hW hz hS hl)
theorem wl_astore_n {kf : Fin 4} {i : Nat} {x : Nat} {L' : List (Nat × Value)} (hd : decode code pc = .ok (.astore_n kf, 1)) (hi : (kf : Nat) = i) (hm : i < 4) (hq : (i, Value.ref x) :: L.filter (fun q => !(q.1 == i) && !(q.1 + 1 == i && q.2.category == 2)) = L') (kk : Wl b n0 xs (pc + 1) P sz k n L' st) : Wl b n0 xs pc P sz k n L (.ref x :: st) := by
  intro l D p e s m below meth c H locs ls C hW hz hS hl
  exact lv_astore_n C.1.1 C.1.2.1 hd hi hl hm hq (fun ls2 hl2 => kk l D p e s m below meth c H locs ls2 C hW hz hS hl2)
theorem wl_iinc {i q0 : Nat} {nn : Int} {x v : Int32} {L' : List (Nat × Value)} (hd : decode code pc = .ok (.iinc i nn, 3)) (hq0 : L[q0]? = some (i, .int x)) (hv : x + Int32.ofInt nn = v) (hm : i < 4) (hq : (i, Value.int v) :: L.filter (fun q => !(q.1 == i) && !(q.1 + 1 == i && q.2.category == 2)) = L') (kk : Wl b n0 xs (pc + 3) P sz k n L' st) : Wl b n0 xs pc P sz k n L st := by
  intro l D p e s m below meth c H locs ls C hW hz hS hl
  exact lv_iinc C.1.1 C.1.2.1 hd hl hq0 hv hm hq (fun ls2 hl2 => kk l D p e s m below meth c H locs ls2 C hW hz hS hl2)
theorem wl_iadd {x y : Int32} (hd : decode code pc = .ok (.iadd, 1))  (kk : Wl b n0 xs (pc + 1) P sz k n L (.int (x + y) :: st)) : Wl b n0 xs pc P sz k n L (.int y :: .int x :: st) := by
  intro l D p e s m below meth c H locs ls C hW hz hS hl
  exact lv_iadd C.1.1 C.1.2.1 hd  (kk l D p e s m below meth c H locs ls C hW hz hS hl)
theorem wl_isub {x y : Int32} (hd : decode code pc = .ok (.isub, 1))  (kk : Wl b n0 xs (pc + 1) P sz k n L (.int (x - y) :: st)) : Wl b n0 xs pc P sz k n L (.int y :: .int x :: st) := by
  intro l D p e s m below meth c H locs ls C hW hz hS hl
  exact lv_isub C.1.1 C.1.2.1 hd  (kk l D p e s m below meth c H locs ls C hW hz hS hl)
theorem wl_iand {x y : Int32} (hd : decode code pc = .ok (.iand, 1))  (kk : Wl b n0 xs (pc + 1) P sz k n L (.int (x &&& y) :: st)) : Wl b n0 xs pc P sz k n L (.int y :: .int x :: st) := by
  intro l D p e s m below meth c H locs ls C hW hz hS hl
  exact lv_iand C.1.1 C.1.2.1 hd  (kk l D p e s m below meth c H locs ls C hW hz hS hl)
theorem wl_dup {va : Value} (hd : decode code pc = .ok (.dup, 1)) (hva : va.category = 1) (kk : Wl b n0 xs (pc + 1) P sz k n L (va :: va :: st)) : Wl b n0 xs pc P sz k n L (va :: st) := by
  intro l D p e s m below meth c H locs ls C hW hz hS hl
  exact lv_dup C.1.1 C.1.2.1 hd hva (kk l D p e s m below meth c H locs ls C hW hz hS hl)
theorem wl_pop {va : Value} (hd : decode code pc = .ok (.pop, 1)) (hva : va.category = 1) (kk : Wl b n0 xs (pc + 1) P sz k n L (st)) : Wl b n0 xs pc P sz k n L (va :: st) := by
  intro l D p e s m below meth c H locs ls C hW hz hS hl
  exact lv_pop C.1.1 C.1.2.1 hd hva (kk l D p e s m below meth c H locs ls C hW hz hS hl)
theorem wl_goto {off : Int} {tgt : Nat} (hd : decode code pc = .ok (.goto off, 3)) (ht : (pc : Int) + off = (tgt : Int)) (kk : Wl b n0 xs tgt P sz k n L st) : Wl b n0 xs pc P sz k n L st := by
  intro l D p e s m below meth c H locs ls C hW hz hS hl
  exact lv_goto C.1.1 C.1.2.1 hd ht (kk l D p e s m below meth c H locs ls C hW hz hS hl)
theorem wl_icmp_eq {x y : Int} {off : Int} {tgt : Nat} (hd : decode code pc = .ok (.if_icmp .eq off, 3)) (ht : (pc : Int) + off = (tgt : Int)) (hx : inR x) (hy : inR y) (kt : x = y → Wl b n0 xs tgt P sz k n L st) (kf : ¬ x = y → Wl b n0 xs (pc + 3) P sz k n L st) : Wl b n0 xs pc P sz k n L (.int (iI y) :: .int (iI x) :: st) := by
  intro l D p e s m below meth c H locs ls C hW hz hS hl
  by_cases hxy : x = y
  · exact lv_icmp_eq C.1.1 C.1.2.1 hd ht (fun _ => kt hxy l D p e s m below meth c H locs ls C hW hz hS hl) (fun hf => absurd (iI_c_eq hx hy hxy) (iI_d_eq hf))
  · exact lv_icmp_eq C.1.1 C.1.2.1 hd ht (fun hf => absurd hf (iI_n_eq hx hy hxy)) (fun _ => kf (by omega) l D p e s m below meth c H locs ls C hW hz hS hl)
theorem wl_icmp_gt {x y : Int} {off : Int} {tgt : Nat} (hd : decode code pc = .ok (.if_icmp .gt off, 3)) (ht : (pc : Int) + off = (tgt : Int)) (hx : inR x) (hy : inR y) (kt : y < x → Wl b n0 xs tgt P sz k n L st) (kf : x ≤ y → Wl b n0 xs (pc + 3) P sz k n L st) : Wl b n0 xs pc P sz k n L (.int (iI y) :: .int (iI x) :: st) := by
  intro l D p e s m below meth c H locs ls C hW hz hS hl
  by_cases hxy : y < x
  · exact lv_icmp_gt C.1.1 C.1.2.1 hd ht (fun _ => kt hxy l D p e s m below meth c H locs ls C hW hz hS hl) (fun hf => absurd (iI_c_gt hx hy hxy) (iI_d_gt hf))
  · exact lv_icmp_gt C.1.1 C.1.2.1 hd ht (fun hf => absurd hf (iI_n_gt hx hy hxy)) (fun _ => kf (by omega) l D p e s m below meth c H locs ls C hW hz hS hl)
theorem wl_same {x : Int32} {off : Int} {tgt : Nat} (hd : decode code pc = .ok (.if_icmp .eq off, 3)) (ht : (pc : Int) + off = (tgt : Int)) (kt : Wl b n0 xs tgt P sz k n L st) : Wl b n0 xs pc P sz k n L (.int x :: .int x :: st) := by
  intro l D p e s m below meth c H locs ls C hW hz hS hl
  exact lv_icmp_eq C.1.1 C.1.2.1 hd ht (fun _ => kt l D p e s m below meth c H locs ls C hW hz hS hl) (fun hf => absurd rfl (iI_d_eq hf))
theorem wl_tableOut {dflt lo hi : Int} {offs : Array Int} {len : Nat} {x : Int} {tgt : Nat} (hd : decode code pc = .ok (.tableswitch dflt lo hi offs, len)) (hx : inR x) (h : x < lo ∨ hi < x) (ht : (pc : Int) + dflt = (tgt : Int)) (kk : Wl b n0 xs tgt P sz k n L st) : Wl b n0 xs pc P sz k n L (.int (iI x) :: st) := by
  intro l D p e s m below meth c H locs ls C hW hz hS hl
  exact lv_tableOut C.1.1 C.1.2.1 hd (by rw [iI_toInt hx]; exact h) ht (kk l D p e s m below meth c H locs ls C hW hz hS hl)
theorem wl_tableIn {dflt lo hi : Int} {offs : Array Int} {len : Nat} {x off : Int} {tgt : Nat} (hd : decode code pc = .ok (.tableswitch dflt lo hi offs, len)) (hx : inR x) (h1 : ¬ x < lo) (h2 : ¬ hi < x) (ho : offs[(x - lo).toNat]? = some off) (ht : (pc : Int) + off = (tgt : Int)) (kk : Wl b n0 xs tgt P sz k n L st) : Wl b n0 xs pc P sz k n L (.int (iI x) :: st) := by
  intro l D p e s m below meth c H locs ls C hW hz hS hl
  exact lv_tableIn C.1.1 C.1.2.1 hd (by rw [iI_toInt hx]; exact h1) (by rw [iI_toInt hx]; exact h2) (by rw [iI_toInt hx]; exact ho) ht (kk l D p e s m below meth c H locs ls C hW hz hS hl)
theorem wl_sld {i : Int32} (hd : decode code pc = .ok (.iaload, 1)) (hin : vp_in i n0) (kk : Wl b n0 xs (pc + 1) P sz k n L (.int (xs i.toNatClampNeg) :: st)) : Wl b n0 xs pc P sz k n L (.int i :: .ref b :: st) := by
  intro l D p e s m below meth c H locs ls C hW hz hS hl
  exact va_sld C.1.1 C.1.2.1 C.1.2.2.2.2.2.2.1 C.1.2.2.2.2.2.2.2.1 (Nat.not_le.mpr C.1.2.2.2.2.2.2.2.1) hS hin hd (kk l D p e s m below meth c H locs ls C hW hz hS hl)
theorem wl_slen (hd : decode code pc = .ok (.arraylength, 1)) (kk : Wl b n0 xs (pc + 1) P sz k n L (.int (iI (n0 : Int)) :: st)) : Wl b n0 xs pc P sz k n L (.ref b :: st) := by
  intro l D p e s m below meth c H locs ls C hW hz hS hl
  exact va_slen C.1.1 C.1.2.1 C.1.2.2.2.2.2.2.1 C.1.2.2.2.2.2.2.2.1 (Nat.not_le.mpr C.1.2.2.2.2.2.2.2.1) hS hd (kk l D p e s m below meth c H locs ls C hW hz hS hl)
theorem wl_end (h0 : decode code pc = .ok (.iconst 1, 1)) (h1 : decode code (pc + 1) = .ok (.ireturn, 1)) (hk : k ≤ 589393) (hn : n ≤ 7334070) : Wl b n0 xs pc P sz k n L [] := by
  intro l D p e s m below meth c H locs ls C hW hz hS hl
  refine lv_iconst (v := 1) C.1.1 C.1.2.1 h0 (by decide) ?_
  refine va_forget (fun q hq => hS.2.2 q hq) ?_
  refine W.widen (k := 589393) (n := 7334070) hk hn ?_
  exact lw_ret C.1.1 C.1.2.1 C.1.2.2.1 C.1.2.2.2.2.2.2.2.2.1 h1
theorem lcall {D : va_G} {l : Launch} {p : Program} {e : Env} {s : State} {m : MethodId} {aa : Array Value} {below : List Frame} {meth : Method} {c : Code} {H : Heap} {locs : List Loc} {k1 : Nat} {ls : Array Slot} {st0 : List Value} {o1 : Option Value × PH × Nat × Nat} (C : lC D p s m meth c b n0 xs) (hS : va_S (pA s.heap.size) s.heap H locs) (hl : lv_has ls 4 L)
    (hr : va_Run p l e room_1 s m #[Value.ref b] below meth c H locs k n k1 o1.2.2.2 (F0 m pc ls st0) rest (pQ D s.heap.size o1 aa) (pA s.heap.size)) (h2 : Wl b n0 xs (pc + 3) o1.2.1 o1.2.2.1 (k + k1) (n + o1.2.2.2) L (o1.1.toList ++ rest)) :
    W p l e room_1 s m #[Value.ref b] below meth c H locs k n (lw_Z below #[Value.ref b] s) (F0 m pc ls st0) := by
  intro T hT X
  obtain ⟨v, st₀, t, T', L', h0, X', hL, e1, e2, ⟨hv, hsz, hPw, hF⟩, st⟩ := hr T hT X
  cases hv
  obtain ⟨hF1, hF2⟩ := hF
  rw [h0] at hF1 hF2
  have hvm : t.vm.Alike s.vm := by rw [← e2]; exact X'.warmed.alike.symm
  obtain ⟨t2, a1, b1⟩ := h2 l D p e s m below meth c T'.heap (locs ++ L') ls C (by rw [e1]; exact hPw.moved hvm) (by rw [e1]; exact hsz) ⟨Nat.le_trans hS.1 (by rw [e1]; exact hF1), fun q h1 h2 => by rw [e1, hF2 q (Nat.lt_of_lt_of_le h1 hS.1) h2]; exact hS.2.1 q h1 h2, fun q hq => by
      rcases List.mem_append.mp hq with h | h
      · exact hS.2.2 q h
      · exact hL q h⟩ hl T' rfl X'
  exact ⟨t2, st t2 a1, b1⟩
theorem lOwn {D : va_G} {p : Program} {s : State} {m : MethodId} {meth : Method} {c : Code} (C : lC D p s m meth c b n0 xs) : s.vm.findClass RL = some m.cls := C.1.2.2.2.2.1
theorem lCB {k1 k2 np ix : Nat} {M' : MT} {D : va_G} {p : Program} {s : State} {m : MethodId} {meth : Method} {c : Code} (C : lC D p s m meth c b n0 xs) (hM : pOk M') (hlink : Cond.methodLink RL ix M'.1 ∈ pWW) (hn : (parseMethodDescriptor M'.1.desc).map (fun d => d.parameters.length) = some np) : CallB room_1 s #[Value.ref b] RL ix M'.1 M'.2.1 M'.2.2.1 M'.2.2.2 (pWs M') (pRm 1300 k1 k2) k1 k2 np :=
  callB_of np (Ts := pWW) C.2.1 (pWs_good hM.1.1) rfl rfl rfl (C.2.1 _ hM.1.2) (C.2.1 _ hlink) ⟨hM.2.2.1.1, hM.2.2.1.2, hn⟩ ⟨by show 1300 + 1 ≤ 2048; omega, by have h5 := hM.2.2.2; show 8 + (M'.2.2.1 + 11) + 64 * 1300 ≤ 84000; omega⟩
theorem lPreS {D : va_G} {p : Program} {s : State} {m : MethodId} {meth : Method} {c : Code} {H : Heap} {locs : List Loc} {av : List Value} (C : lC D p s m meth c b n0 xs) (hW : pW D s.heap.size P s H) (hz : H.size = sz) (hS : va_S (pA s.heap.size) s.heap H locs) : PreS s H (va_Pc av (pPre D s.heap.size P sz)) av :=
  ⟨pPre_blind, fun U hU hWm => ⟨rfl, by rw [hU]; exact hz, by rw [hU]; exact hW.moved hWm.alike, va_K.moved hWm.alike C.2.2.1, C.2.2.2.call hS hU hWm⟩⟩
theorem lPreV {ci a : Nat} {q : vw_C} {fs : List Value} {D : va_G} {p : Program} {s : State} {m : MethodId} {meth : Method} {c : Code} {H : Heap} {locs : List Loc} (C : lC D p s m meth c b n0 xs) (hW : pW D s.heap.size P s H) (hz : H.size = sz) (hS : va_S (pA s.heap.size) s.heap H locs) (hq : vwCl[ci]? = some q) (hP : P a = some (.inr (ci, fs))) : PreV s H q.1 a (va_Pc (.ref a :: As) (pPre D s.heap.size P sz)) As :=
  ⟨pPre_blind, va_recv (q0 := 0) C.2.2.1 (pone (hW a _ hP).2.1) hq rfl, fun U hU hWm => ⟨rfl, by rw [hU]; exact hz, by rw [hU]; exact hW.moved hWm.alike, va_K.moved hWm.alike C.2.2.1, C.2.2.2.call hS hU hWm⟩⟩
/-- a call that answers -/
theorem wl_V {M' : MT} {ix ci a k1 : Nat} {q : vw_C} {fs : List Value} {L1 : List (Nat × Value)} {o1 : Option Value × PH × Nat × Nat} (hd : decode code pc = .ok (.invokevirtual ix, 3)) (hM : pOk M') (hin : Cond.instanceMethod M'.1 ∈ pWW) (hse : Cond.selects M'.1.cls M'.1 M'.1 ∈ pWW) (hlink : Cond.methodLink RL ix M'.1 ∈ pWW) (hnp : (parseMethodDescriptor M'.1.desc).map (fun d => d.parameters.length) = some As.length) (hq : vwCl[ci]? = some q) (hqc : q.1 = M'.1.cls) (hP : P a = some (.inr (ci, fs))) (hL : lv_args 0 (.ref a :: As) = L1) (hlen : (lg_sl (.ref a :: As)).length ≤ M'.2.2.1) (hcat : (rest.map fun v => v.category).sum ≤ 8) (hst0 : st = As.reverse ++ .ref a :: rest) (h1 : Wp 1300 M' 0 P sz L1 [] o1) (hk1 : o1.2.2.1 = sz + k1) (hrk : k + k1 ≤ 589393) (hrn : n + o1.2.2.2 ≤ 7334070) (h2 : Wl b n0 xs (pc + 3) o1.2.1 o1.2.2.1 (k + k1) (n + o1.2.2.2) L (o1.1.toList ++ rest)) : Wl b n0 xs pc P sz k n L st := by
  intro l D p e s m below meth c H locs ls C hW hz hS hl
  exact lcall (o1 := o1) C hS hl (va_runV (Ts := pWW) (C := q.1) (As := As) (rest := rest) ⟨C.1.1, C.1.2.1, C.1.2.2.2.1, lOwn C, C.2.1⟩ (wp_met hM.2.1 hL hlen hk1 h1 l D s.heap.size) ⟨lCB C hM hlink hnp, C.2.1 _ hin, by rw [hqc]; exact C.2.1 _ hse⟩ (lPreV C hW hz hS hq hP) rfl rfl hl.1 hst0 (lv_room hcat) hd ⟨hrk, hrn⟩) h2
/-- a constructor -/
theorem wl_I {M' : MT} {ix a k1 : Nat} {L1 : List (Nat × Value)} {o1 : Option Value × PH × Nat × Nat} (hd : decode code pc = .ok (.invokespecial ix, 3)) (hM : pOk M') (hret : M'.2.2.2 = none) (hnm : M'.1.name = "<init>") (hin : Cond.instanceMethod M'.1 ∈ pWW) (hlink : Cond.methodLink RL ix M'.1 ∈ pWW) (hnp : (parseMethodDescriptor M'.1.desc).map (fun d => d.parameters.length) = some As.length) (hL : lv_args 0 (.ref a :: As) = L1) (hlen : (lg_sl (.ref a :: As)).length ≤ M'.2.2.1) (hcat : (rest.map fun v => v.category).sum ≤ 8) (hst0 : st = As.reverse ++ .ref a :: rest) (h1 : Wp 1300 M' 0 P sz L1 [] o1) (hk1 : o1.2.2.1 = sz + k1) (hrk : k + k1 ≤ 589393) (hrn : n + o1.2.2.2 ≤ 7334070) (h2 : Wl b n0 xs (pc + 3) o1.2.1 o1.2.2.1 (k + k1) (n + o1.2.2.2) L (o1.1.toList ++ rest)) : Wl b n0 xs pc P sz k n L st := by
  intro l D p e s m below meth c H locs ls C hW hz hS hl
  have hCB := lCB (k1 := k1) (k2 := o1.2.2.2) C hM hlink hnp
  rw [hret] at hCB
  exact lcall (o1 := o1) C hS hl (va_runI (Ts := pWW) (As := As) (rest := rest) ⟨C.1.1, C.1.2.1, C.1.2.2.2.1, lOwn C, C.2.1⟩ (wp_met hM.2.1 hL hlen hk1 h1 l D s.heap.size) ⟨hCB, hnm, C.2.1 _ hin⟩ (lPreS C hW hz hS) rfl rfl hl.1 hst0 (lv_room hcat) hd ⟨hrk, hrn⟩) h2
theorem wl_new {ci ix N : Nat} {C0 : String} {T : u_T} {fs : List Value} (ty : Nat → FieldType) (hty : ∀ k, k < N → parseFieldDescriptor (T k).2.2.1 = some (ty k)) (hd : decode code pc = .ok (.new ix, 3)) (hq : vwCl[ci]? = some (C0, T, N)) (hlay : ∀ w ∈ u_ws C0 T N, w ∈ pWW) (h1 : Cond.classLink RL ix C0 ∈ pWW) (h2 : Cond.instantiable C0 N ∈ pWW) (h3 : Cond.initialized C0 ∈ pWW) (hfs : ∀ j, j < N → defaultValue (ty j) = vp_V fs j) (hfl : fs.length = N) (hrk : k + 1 ≤ 589393) (hrn : n + N ≤ 7334070) (kk : Wl b n0 xs (pc + 3) (pS P sz (.inr (ci, fs))) (sz + 1) (k + 1) (n + N) L (.ref sz :: st)) : Wl b n0 xs pc P sz k n L st := by
  intro l D p e s m below meth c H locs ls C hW hz hS hl
  subst hz
  have hKn := C.2.2.1.1 ci _ hq
  refine W.newcK C.1.1 C.1.2.1 (lOwn C) (C.2.1 _ h1) (C.2.1 _ h2) (C.2.1 _ h3) rfl hd hrk hrn hKn.2.1 rfl fun H1 kC hkC e1 z1 o1 => ?_
  exact kk l D p e s m below meth c H1 locs ls C (hW.push (Nat.le_trans C.2.2.2.2.1 hS.1) ⟨⟨_, hq, (u_born ty C.2.1 hlay hKn hkC e1 hty).to hfs⟩, _, hq, hfl⟩ o1) z1 ⟨Nat.le_trans hS.1 (by omega), fun x h1 h2 => (o1 x (Nat.lt_of_lt_of_le h1 hS.1)).trans (hS.2.1 x h1 h2), hS.2.2⟩ hl
/-- a number of the script -/
def xz (xs : Nat → Int32) (j : Int) : Int := (xs j.toNat).toInt
theorem xz_r (xs : Nat → Int32) (j : Int) : -2147483648 ≤ xz xs j ∧ xz xs j ≤ 2147483647 := inR_toInt _
abbrev LL (i : Int) (bm a b : Nat) : List (Nat × Value) := [(3, .int (iI i)), (2, .ref bm), (1, .ref a), (0, .ref b)]
theorem wl_xs {z : Int} (h0 : 0 ≤ z) (h1 : z < n0) (hn : n0 ≤ 3584) (hd : decode code pc = .ok (.iaload, 1)) (kk : Wl b n0 xs (pc + 1) P sz k n L (.int (iI (xz xs z)) :: st)) : Wl b n0 xs pc P sz k n L (.int (iI z) :: .ref b :: st) := by
  refine wl_sld hd (iI_in h0 h1 (by omega)) ?_
  rw [iI_nat h0 (by omega), ← iI_self (xs z.toNat)]
  exact kk
theorem wl_arg {i kc : Int} {bm a : Nat} (h0 : decode code pc = .ok (.aload_n 0, 1)) (h1 : decode code (pc + 1) = .ok (.iload_n 3, 1)) (h2 : decode code (pc + 1 + 1) = .ok (.iconst kc, 1)) (h3 : decode code (pc + 1 + 1 + 1) = .ok (.iadd, 1)) (h4 : decode code (pc + 1 + 1 + 1 + 1) = .ok (.iaload, 1)) (hz : 0 ≤ i + kc ∧ i + kc < n0) (hn : n0 ≤ 3584) (kk : Wl b n0 xs (pc + 1 + 1 + 1 + 1 + 1) P sz k n (LL i bm a b) (.int (iI (xz xs (i + kc))) :: st)) : Wl b n0 xs pc P sz k n (LL i bm a b) st := by
  refine wl_aload_n h0 rfl 3 rfl ?_
  refine wl_iload_n h1 rfl 0 rfl ?_
  refine wl_iconst (v := iI kc) h2 rfl ?_
  refine wl_iadd h3 ?_
  rw [iI_add]
  exact wl_xs hz.1 hz.2 hn h4 kk
theorem wl_arg6 {i kc : Int} {bm a : Nat} (h0 : decode code pc = .ok (.aload_n 0, 1)) (h1 : decode code (pc + 1) = .ok (.iload_n 3, 1)) (h2 : decode code (pc + 1 + 1) = .ok (.bipush kc, 2)) (hr : -128 ≤ kc ∧ kc ≤ 127) (h3 : decode code (pc + 1 + 1 + 2) = .ok (.iadd, 1)) (h4 : decode code (pc + 1 + 1 + 2 + 1) = .ok (.iaload, 1)) (hz : 0 ≤ i + kc ∧ i + kc < n0) (hn : n0 ≤ 3584) (kk : Wl b n0 xs (pc + 1 + 1 + 2 + 1 + 1) P sz k n (LL i bm a b) (.int (iI (xz xs (i + kc))) :: st)) : Wl b n0 xs pc P sz k n (LL i bm a b) st := by
  refine wl_aload_n h0 rfl 3 rfl ?_
  refine wl_iload_n h1 rfl 0 rfl ?_
  refine wl_bipush (v := iI kc) h2 (iI_8 hr) ?_
  refine wl_iadd h3 ?_
  rw [iI_add]
  exact wl_xs hz.1 hz.2 hn h4 kk
end LROW
theorem iI_and31 {z : Int} : ∃ w : Int, iI z &&& iI 31 = iI w ∧ 0 ≤ w ∧ w ≤ 31 := by
  refine ⟨(iI z &&& iI 31).toInt, (iI_self _).symm, ?_⟩
  have h : (iI z &&& iI 31).toInt = ((iI z).toBitVec &&& 31#32).toInt := rfl
  rw [h]
  have h2 : ((iI z).toBitVec &&& 31#32).toNat ≤ 31 := by rw [BitVec.toNat_and]; exact Nat.and_le_right
  rw [BitVec.toInt_eq_toNat_of_lt (by omega)]
  omega
theorem ov_swap {T : CT} {σ τ : MS} {P0 : PH} {bm : Nat} (h : ∀ q, bm ≤ q → q < bm + 56 → (T q).1 = 0) : ovC T σ (ovM bm τ P0) = ovM bm τ (ovC T σ P0) := by
  funext q
  by_cases hq : bm ≤ q ∧ q < bm + 56
  · have e : ∀ Q : PH, ovC T σ Q q = Q q := fun Q => if_pos (h q hq.1 hq.2)
    rw [e]
    unfold ovM
    by_cases h1 : q = bm
    · rw [if_pos h1, if_pos h1]
    · rw [if_neg h1, if_neg h1, if_pos (by omega), if_pos (by omega)]
  · have e : ∀ Q : PH, ovM bm τ Q q = Q q := fun Q => by unfold ovM; rw [if_neg (by omega), if_neg (by omega)]
    rw [e]
    unfold ovC
    rw [e]
theorem sum_leB {f : Nat → Nat} {B : Nat} : ∀ K : List Nat, (∀ a ∈ K, f a ≤ B) → (K.map f).sum ≤ B * K.length
  | [], _ => Nat.zero_le _
  | x :: K, h => by
    have h1 := h x List.mem_cons_self
    have h2 := sum_leB K (fun a q => h a (List.mem_cons_of_mem _ q))
    rw [List.map_cons, List.sum_cons, List.length_cons, Nat.mul_add, Nat.mul_one]
    omega
theorem phL_le (n : Nat) : phL n ≤ 8800 := by unfold phL; split <;> omega
theorem WT.room {T : CT} {σ : MS} (h : WT T σ) : σ.1 0 ≤ 2100000 ∧ σ.1 1 ≤ 260000 := by
  obtain ⟨h1, -, -, -, h5, b, K, -, hK, hm, g0, g1⟩ := h
  have s1 := sum_leB (f := fun a => phL (cLen T σ a)) (B := 8800) K (fun a _ => phL_le _)
  have s2 := sum_leB (f := fun a => cLen T σ a) (B := 2600) K (fun a q => by
    obtain ⟨y, e1, -, -, e4⟩ := cells_at h1 ((hm a).mp q)
    show (T (σ.2.1 5 a).toNat).2 ≤ 2600
    rw [e1]
    exact e4)
  have t : ∀ i, 0 ≤ i → i < 6 → tLen T σ i ≤ 32788 := fun i a c => by
    unfold tLen
    rcases h5.2 i a c with q | ⟨x, q1, q2⟩
    · rw [if_pos q]; omega
    · rw [q1]
      split
      · omega
      · exact q2.2.2
  have t0 := t 0 (by decide) (by decide)
  have t1 := t 1 (by decide) (by decide)
  have t2 := t 2 (by decide) (by decide)
  have t3 := t 3 (by decide) (by decide)
  have t4 := t 4 (by decide) (by decide)
  have t5 := t 5 (by decide) (by decide)
  have p : prS σ b ≤ 5000 := by unfold prS; split <;> omega
  unfold tSum at g0 g1
  generalize (K.map (fun a => phL (cLen T σ a))).sum = A at s1 g0
  generalize (K.map (fun a => cLen T σ a)).sum = B at s2 g1
  omega
/-- the two keepers, side by side, behind N calls -/
def LI (N a bm sz k n : Nat) (T : CT) (σ τ : MS) : Prop := INVX N T σ a ∧ OB T a 11 ∧ INVM N τ ∧ σ.2.1 96 a = τ.1 2 ∧ DOM T sz ∧ bm + 56 ≤ sz ∧ (∀ q, bm ≤ q → q < bm + 56 → (T q).1 = 0) ∧ (k : Int) = σ.1 1 + 56 ∧ (n : Int) = σ.1 0 + 1125805
section LIS
variable {N a bm sz k n sz2 n9 : Nat} {T T2 : CT} {σ σ2 τ τ2 : MS}
theorem LI.x (h : LI N a bm sz k n T σ τ) : INVX N T σ a := h.1
theorem LI.ob (h : LI N a bm sz k n T σ τ) : OB T a 11 := h.2.1
theorem LI.m (h : LI N a bm sz k n T σ τ) : INVM N τ := h.2.2.1
theorem LI.tape (h : LI N a bm sz k n T σ τ) : σ.2.1 96 a = τ.1 2 := h.2.2.2.1
theorem LI.dom (h : LI N a bm sz k n T σ τ) : DOM T sz := h.2.2.2.2.1
theorem LI.top (h : LI N a bm sz k n T σ τ) : bm + 56 ≤ sz := h.2.2.2.2.2.1
theorem LI.free (h : LI N a bm sz k n T σ τ) : ∀ q, bm ≤ q → q < bm + 56 → (T q).1 = 0 := h.2.2.2.2.2.2.1
theorem LI.kk (h : LI N a bm sz k n T σ τ) : (k : Int) = σ.1 1 + 56 := h.2.2.2.2.2.2.2.1
theorem LI.nn (h : LI N a bm sz k n T σ τ) : (n : Int) = σ.1 0 + 1125805 := h.2.2.2.2.2.2.2.2
theorem LI.le (h : LI N a bm sz k n T σ τ) : k ≤ 589393 ∧ n ≤ 7334070 := by
  have r := h.x.1.room
  have e1 := h.kk
  have e2 := h.nn
  omega
theorem LI.room (h : LI N a bm sz k n T σ τ) (g : Gd T σ sz T2 σ2 sz2 n9) (hi : INVX (N + 1) T2 σ2 a) : k + (sz2 - sz) ≤ 589393 ∧ n + n9 ≤ 7334070 := by
  have r := hi.1.room
  have e1 := h.kk
  have e2 := h.nn
  have g1 := g.1
  have g4 := g.2.2.2.1
  have g5 := g.2.2.2.2
  omega
theorem LI.free2 (h : LI N a bm sz k n T σ τ) (g : Gd T σ sz T2 σ2 sz2 n9) : ∀ q, bm ≤ q → q < bm + 56 → (T2 q).1 = 0 := fun q u v => by
  have e := h.free q u v
  rw [g.2.2.1 q (by have := h.top; omega) (by rw [e]; decide)]
  exact e
theorem LI.next (h : LI N a bm sz k n T σ τ) (g : Gd T σ sz T2 σ2 sz2 n9) (hi : INVX (N + 1) T2 σ2 a) (hj : INVM (N + 1) τ2) (ht : σ2.2.1 96 a = τ2.1 2) : LI (N + 1) a bm sz2 (k + (sz2 - sz)) (n + n9) T2 σ2 τ2 := by
  have e1 := h.kk
  have e2 := h.nn
  have g1 := g.1
  have g4 := g.2.2.2.1
  have g5 := g.2.2.2.2
  exact ⟨hi, (g.gt h.dom).ob h.ob, hj, ht, g.2.1, Nat.le_trans h.top g1, h.free2 g, by omega, by omega⟩
end LIS
section LCALL
variable {b n0 : Nat} {xs : Nat → Int32} {pc : Nat} {P0 : PH} {N a bm sz k n sz2 k2 n2 : Nat} {T : CT} {σ τ : MS} {L L1 : List (Nat × Value)} {st rest As : List Value} {M' : MT} {ix : Nat}
/-- the class's call -/
theorem wl_X {pv : Option Value → CT → MS → Prop} (hd : decode code pc = .ok (.invokevirtual ix, 3)) (hM : pOk M') (hin : Cond.instanceMethod M'.1 ∈ pWW) (hse : Cond.selects M'.1.cls M'.1 M'.1 ∈ pWW) (hlink : Cond.methodLink RL ix M'.1 ∈ pWW) (hnp : (parseMethodDescriptor M'.1.desc).map (fun d => d.parameters.length) = some As.length) (hqc : RX11 = M'.1.cls) (hL : lv_args 0 (.ref a :: As) = L1) (hlen : (lg_sl (.ref a :: As)).length ≤ M'.2.2.1) (hcat : (rest.map fun v => v.category).sum ≤ 8) (hst0 : st = As.reverse ++ .ref a :: rest) (h : LI N a bm sz k n T σ τ) (h1 : Tn 1300 M' 0 T σ L1 [] pv) (hi : ∀ r T2 σ2, pv r T2 σ2 → INVX (N + 1) T2 σ2 a) (h2 : ∀ r T2 σ2 sz2 n9, Gd T σ sz T2 σ2 sz2 n9 → pv r T2 σ2 → Wl b n0 xs (pc + 3) (ovC T2 σ2 P0) sz2 (k + (sz2 - sz)) (n + n9) L (r.toList ++ rest)) : Wl b n0 xs pc (ovC T σ P0) sz k n L st := by
  obtain ⟨r, T2, σ2, sz2, n9, w, g, p1⟩ := h1 P0 sz h.dom
  have hr := h.room g (hi r T2 σ2 p1)
  have g1 := g.1
  exact wl_V (ci := 11) (q := (RX11, TX11, 16)) (k1 := sz2 - sz) (o1 := (r, ovC T2 σ2 P0, sz2, n9)) hd hM hin hse hlink hnp rfl hqc (ovC_ob h.ob) hL hlen hcat hst0 w (by show sz2 = sz + (sz2 - sz); omega) hr.1 hr.2 (h2 r T2 σ2 sz2 n9 g p1)
/-- the reference's call -/
theorem wl_M {pv : Option Value → MS → Prop} (hd : decode code pc = .ok (.invokevirtual ix, 3)) (hM : pOk M') (hin : Cond.instanceMethod M'.1 ∈ pWW) (hse : Cond.selects M'.1.cls M'.1 M'.1 ∈ pWW) (hlink : Cond.methodLink RL ix M'.1 ∈ pWW) (hnp : (parseMethodDescriptor M'.1.desc).map (fun d => d.parameters.length) = some As.length) (hqc : RX12 = M'.1.cls) (hL : lv_args 0 (.ref bm :: As) = L1) (hlen : (lg_sl (.ref bm :: As)).length ≤ M'.2.2.1) (hcat : (rest.map fun v => v.category).sum ≤ 8) (hst0 : st = As.reverse ++ .ref bm :: rest) (hb : bm + 56 ≤ sz) (hf : ∀ q, bm ≤ q → q < bm + 56 → (T q).1 = 0) (hk : k ≤ 589393 ∧ n ≤ 7334070) (h1 : Tm 1300 M' 0 bm τ L1 [] pv) (h2 : ∀ r τ2, pv r τ2 → Wl b n0 xs (pc + 3) (ovC T σ (ovM bm τ2 P0)) sz k n L (r.toList ++ rest)) : Wl b n0 xs pc (ovC T σ (ovM bm τ P0)) sz k n L st := by
  obtain ⟨r, τ2, w, p1⟩ := h1 (ovC T σ P0) sz hb
  have h3 := h2 r τ2 p1
  rw [ov_swap hf] at h3 ⊢
  exact wl_V (ci := 12) (q := (RX12, TX12, 87)) (k1 := 0) (o1 := (r, ovM bm τ2 (ovC T σ P0), sz, 0)) hd hM hin hse hlink hnp rfl hqc ovM_b hL hlen hcat hst0 w rfl hk.1 hk.2 h3
end LCALL

