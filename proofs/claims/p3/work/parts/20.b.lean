/-- an object of class ci -/
def OB (T : CT) (a ci : Nat) : Prop := 30 ≤ (T a).1 ∧ kC (T a).1 = ci
section TNH
variable {d : Nat} {M : MT} {pc : Nat} {T : CT} {σ : MS} {L : List (Nat × Value)} {st : List Value} {post : Option Value → MS → Prop} {a : Nat}
theorem ovC_ob {ci : Nat} {P0 : PH} (h : OB T a ci) : ovC T σ P0 a = some (.inr (ci, cF ci σ a)) := by
  have e := ovC_o (σ := σ) (P0 := P0) h.1
  rw [h.2] at e
  exact e
theorem tn_getV {ci i n ix N : Nat} {CN : String} {Tt : u_T} {r : Bool} (hd : decode M.2.1 pc = .ok (.getfield ix, 3)) (hq : vwCl[ci]? = some (CN, Tt, N)) (hlay : ∀ w ∈ u_ws CN Tt N, w ∈ pWW) (hk : i < N) (hlink : Cond.fieldLink M.1.cls ix (Tt i).1 (Tt i).2.1 (Tt i).2.2.1 ∈ pWW) (ha : OB T a ci) (hr : (cR ci)[i]? = some r) (hn : cB ci + i = n) (kk : Tn d M (pc + 3) T σ L (vl r (σ.2.1 n a) :: st) post) : Tn d M pc T σ L (.ref a :: st) post := fun P0 sz hs => by
  obtain ⟨r2, σ2, w, hp⟩ := kk P0 sz hs
  exact ⟨r2, σ2, wp_get hd hq hlay hk hlink (ovC_ob ha) (by rw [← hn] at w ⊢; exact cL_get hr) w, hp⟩
/-- a number is read -/
theorem tn_getI {ci i n ix N : Nat} {CN : String} {Tt : u_T} {t : Int} (hd : decode M.2.1 pc = .ok (.getfield ix, 3)) (hq : vwCl[ci]? = some (CN, Tt, N)) (hlay : ∀ w ∈ u_ws CN Tt N, w ∈ pWW) (hk : i < N) (hlink : Cond.fieldLink M.1.cls ix (Tt i).1 (Tt i).2.1 (Tt i).2.2.1 ∈ pWW) (ha : OB T a ci) (hr : (cR ci)[i]? = some false) (hn : cB ci + i = n) (ht : σ.2.1 n a = t) (kk : Tn d M (pc + 3) T σ L (.int (iI t) :: st) post) : Tn d M pc T σ L (.ref a :: st) post := tn_getV hd hq hlay hk hlink ha hr hn (by rw [ht]; exact kk)
/-- an address is read -/
theorem tn_getR {ci i n ix N x : Nat} {CN : String} {Tt : u_T} (hd : decode M.2.1 pc = .ok (.getfield ix, 3)) (hq : vwCl[ci]? = some (CN, Tt, N)) (hlay : ∀ w ∈ u_ws CN Tt N, w ∈ pWW) (hk : i < N) (hlink : Cond.fieldLink M.1.cls ix (Tt i).1 (Tt i).2.1 (Tt i).2.2.1 ∈ pWW) (ha : OB T a ci) (hr : (cR ci)[i]? = some true) (hn : cB ci + i = n) (ht : σ.2.1 n a = (x : Int)) (kk : Tn d M (pc + 3) T σ L (.ref x :: st) post) : Tn d M pc T σ L (.ref a :: st) post := tn_getV hd hq hlay hk hlink ha hr hn (by rw [vl_ref ht]; exact kk)
theorem tn_getN {ci i n ix N : Nat} {CN : String} {Tt : u_T} (hd : decode M.2.1 pc = .ok (.getfield ix, 3)) (hq : vwCl[ci]? = some (CN, Tt, N)) (hlay : ∀ w ∈ u_ws CN Tt N, w ∈ pWW) (hk : i < N) (hlink : Cond.fieldLink M.1.cls ix (Tt i).1 (Tt i).2.1 (Tt i).2.2.1 ∈ pWW) (ha : OB T a ci) (hr : (cR ci)[i]? = some true) (hn : cB ci + i = n) (ht : σ.2.1 n a < 0) (kk : Tn d M (pc + 3) T σ L (.null :: st) post) : Tn d M pc T σ L (.ref a :: st) post := tn_getV hd hq hlay hk hlink ha hr hn (by rw [vl_null ht]; exact kk)
theorem tn_putV {ci i n ix N : Nat} {CN : String} {Tt : u_T} {r : Bool} {v : Int} {w0 : Value} {ty : FieldType} (ty0 : Nat → FieldType) (hty : ∀ k, k < N → parseFieldDescriptor (Tt k).2.2.1 = some (ty0 k)) (hnm : ∀ a, a < N → ∀ b, b < N → a ≠ b → (Tt a).2.1 ≠ (Tt b).2.1) (hd : decode M.2.1 pc = .ok (.putfield ix, 3)) (hq : vwCl[ci]? = some (CN, Tt, N)) (hlay : ∀ w ∈ u_ws CN Tt N, w ∈ pWW) (hk : i < N) (hlink : Cond.fieldLink M.1.cls ix (Tt i).1 (Tt i).2.1 (Tt i).2.2.1 ∈ pWW) (hfin : (Tt i).2.2.2 = false) (hds : parseFieldDescriptor (Tt i).2.2.1 = some ty) (hw : w0 = vl r v) (hnr : narrow ty w0 = w0) (hfit : fits ty w0 = true) (ha : OB T a ci) (hr : (cR ci)[i]? = some r) (hn : cB ci + i = n) (kk : Tn d M (pc + 3) T (sA n a v σ) L st post) : Tn d M pc T σ L (w0 :: .ref a :: st) post := fun P0 sz hs => by
  obtain ⟨r2, σ2, w, hp⟩ := kk P0 sz hs
  refine ⟨r2, σ2, wp_put ty0 hty hnm hd hq hlay hk hlink hfin hds hnr hfit (ovC_ob ha) ?_, hp⟩
  have e : (cF ci σ a).set i w0 = cF ci (sA n a v σ) a := by rw [hw, ← hn]; exact cL_set hr
  have n2 : n < 200 := by
    have h1 := cR_len ci
    have h2 := (List.getElem?_eq_some_iff.mp hr).1
    omega
  have e2 := ovC_sF (T := T) (σ := σ) (P0 := P0) (a := a) (v := v) (fs := (cF ci σ a).set i w0) ha.1 n2 (by rw [ha.2]; exact e)
  rw [ha.2] at e2
  rw [e2]
  exact w
/-- numbers of arrays -/
theorem tn_iald {z v : Int} (hd : decode M.2.1 pc = .ok (.iaload, 1)) (ha : (T a).1 = 1 ∨ (T a).1 = 11) (h0 : 0 ≤ z) (h1 : z < ((T a).2 : Int)) (hn : (T a).2 ≤ 2147483647) (hv : σ.2.1 (1000 + a) z = v) (kk : Tn d M (pc + 1) T σ L (.int (iI v) :: st) post) : Tn d M pc T σ L (.int (iI z) :: .ref a :: st) post := fun P0 sz hs => by
  obtain ⟨r, σ2, w, hp⟩ := kk P0 sz hs
  refine ⟨r, σ2, wp_iald hd (ovC_i ha) (iI_in h0 h1 hn) ?_, hp⟩
  rw [iI_nat h0 (by omega), show ((z.toNat : Nat) : Int) = z by omega, hv]
  exact w
theorem tn_bald {z v : Int} (hd : decode M.2.1 pc = .ok (.baload, 1)) (ha : (T a).1 = 2) (h0 : 0 ≤ z) (h1 : z < ((T a).2 : Int)) (hn : (T a).2 ≤ 2147483647) (hv : σ.2.1 (1000 + a) z = v) (kk : Tn d M (pc + 1) T σ L (.int (iI v) :: st) post) : Tn d M pc T σ L (.int (iI z) :: .ref a :: st) post := fun P0 sz hs => by
  obtain ⟨r, σ2, w, hp⟩ := kk P0 sz hs
  refine ⟨r, σ2, wp_bald hd (ovC_b ha) (iI_in h0 h1 hn) ?_, hp⟩
  rw [iI_nat h0 (by omega), show ((z.toNat : Nat) : Int) = z by omega, hv]
  exact w
theorem tn_lald {z : Int} {v : Int64} (hd : decode M.2.1 pc = .ok (.laload, 1)) (ha : (T a).1 = 3) (h0 : 0 ≤ z) (h1 : z < ((T a).2 : Int)) (hn : (T a).2 ≤ 2147483647) (hv : σ.2.2 a z = v) (kk : Tn d M (pc + 1) T σ L (.long v :: st) post) : Tn d M pc T σ L (.int (iI z) :: .ref a :: st) post := fun P0 sz hs => by
  obtain ⟨r, σ2, w, hp⟩ := kk P0 sz hs
  refine ⟨r, σ2, wp_lald hd (ovC_l ha) (iI_in h0 h1 hn) ?_, hp⟩
  rw [iI_nat h0 (by omega), show ((z.toNat : Nat) : Int) = z by omega, hv]
  exact w
theorem tn_aald {z : Int} {x : Nat} (hd : decode M.2.1 pc = .ok (.aaload, 1)) (ha : (T a).1 = 4 ∨ (T a).1 = 5) (h0 : 0 ≤ z) (h1 : z < ((T a).2 : Int)) (hn : (T a).2 ≤ 2147483647) (hv : σ.2.1 (1000 + a) z = (x : Int)) (kk : Tn d M (pc + 1) T σ L (.ref x :: st) post) : Tn d M pc T σ L (.int (iI z) :: .ref a :: st) post := fun P0 sz hs => by
  obtain ⟨r, σ2, w, hp⟩ := kk P0 sz hs
  refine ⟨r, σ2, wp_aald hd (ovC_q ha) (iI_in h0 h1 hn) ?_, hp⟩
  rw [iI_nat h0 (by omega), show ((z.toNat : Nat) : Int) = z by omega]
  have e : va_rf (rfO (σ.2.1 (1000 + a) z)) = .ref x := vl_ref hv
  rw [e]
  exact w
theorem tn_alen {x : Nat × vp_A} (hd : decode M.2.1 pc = .ok (.arraylength, 1)) (ha : ∀ P0, ovC T σ P0 a = some (.inl x)) (hx : x.2.1 = (T a).2) (kk : Tn d M (pc + 1) T σ L (.int (iI ((T a).2 : Int)) :: st) post) : Tn d M pc T σ L (.ref a :: st) post := fun P0 sz hs => by
  obtain ⟨r, σ2, w, hp⟩ := kk P0 sz hs
  refine ⟨r, σ2, wp_alen hd (ha P0) ?_ w, hp⟩
  rw [hx]
  exact (Int32.ofInt_eq_ofNat).symm
theorem tn_iast {z v : Int} (hd : decode M.2.1 pc = .ok (.iastore, 1)) (ha : (T a).1 = 1 ∨ (T a).1 = 11) (h0 : 0 ≤ z) (h1 : z < ((T a).2 : Int)) (hn : (T a).2 ≤ 2147483647) (kk : Tn d M (pc + 1) T (sA (1000 + a) z v σ) L st post) : Tn d M pc T σ L (.int (iI v) :: .int (iI z) :: .ref a :: st) post := fun P0 sz hs => by
  obtain ⟨r, σ2, w, hp⟩ := kk P0 sz hs
  refine ⟨r, σ2, wp_iast hd (ovC_i ha) (iI_in h0 h1 hn) ?_, hp⟩
  rw [iI_nat h0 (by omega), ovC_sI ha h0]
  exact w
theorem tn_bast {z v : Int} {x : Int32} (hd : decode M.2.1 pc = .ok (.bastore, 1)) (ha : (T a).1 = 2) (h0 : 0 ≤ z) (h1 : z < ((T a).2 : Int)) (hn : (T a).2 ≤ 2147483647) (hv : vp_nar .byte x = iI v) (kk : Tn d M (pc + 1) T (sA (1000 + a) z v σ) L st post) : Tn d M pc T σ L (.int x :: .int (iI z) :: .ref a :: st) post := fun P0 sz hs => by
  obtain ⟨r, σ2, w, hp⟩ := kk P0 sz hs
  refine ⟨r, σ2, wp_bast hd (ovC_b ha) (iI_in h0 h1 hn) ?_, hp⟩
  rw [hv, iI_nat h0 (by omega), ovC_sB ha h0]
  exact w
theorem tn_last {z : Int} {v : Int64} (hd : decode M.2.1 pc = .ok (.lastore, 1)) (ha : (T a).1 = 3) (h0 : 0 ≤ z) (h1 : z < ((T a).2 : Int)) (hn : (T a).2 ≤ 2147483647) (kk : Tn d M (pc + 1) T (sJ a z v σ) L st post) : Tn d M pc T σ L (.long v :: .int (iI z) :: .ref a :: st) post := fun P0 sz hs => by
  obtain ⟨r, σ2, w, hp⟩ := kk P0 sz hs
  refine ⟨r, σ2, wp_last hd (ovC_l ha) (iI_in h0 h1 hn) ?_, hp⟩
  rw [iI_nat h0 (by omega), ovC_sL ha h0]
  exact w
theorem tn_iret {v : Int32} (hr : M.2.2.2 = some .int) (hd : decode M.2.1 pc = .ok (.ireturn, 1)) (hp : post (some (.int v)) σ) : Tn d M pc T σ L [.int v] post := fun _ _ _ => ⟨_, _, wp_iret hr hd, hp⟩
theorem tn_zret {v : Int} (hr : M.2.2.2 = some .boolean) (hv : v = 0 ∨ v = 1) (hd : decode M.2.1 pc = .ok (.ireturn, 1)) (hp : post (some (.int (iI v))) σ) : Tn d M pc T σ L [.int (iI v)] post := fun _ _ _ => ⟨_, _, wp_zret hr (by rcases hv with rfl | rfl <;> rfl) hd, hp⟩
theorem tn_vret (hr : M.2.2.2 = none) (hd : decode M.2.1 pc = .ok (.return_, 1)) (hp : post none σ) : Tn d M pc T σ L [] post := fun _ _ _ => ⟨_, _, wp_vret hr hd, hp⟩
theorem tn_lret {v : Int64} (hr : M.2.2.2 = some .long) (hd : decode M.2.1 pc = .ok (.lreturn, 1)) (hp : post (some (.long v)) σ) : Tn d M pc T σ L [.long v] post := fun _ _ _ => ⟨_, _, wp_lret hr hd, hp⟩
theorem tn_aret {v : Value} {rt : FieldType} (hr : M.2.2.2 = some rt) (hrt : (∃ n, rt = .object n) ∨ ∃ t, rt = .array t) (hv : v = .null ∨ ∃ a, v = .ref a) (hd : decode M.2.1 pc = .ok (.areturn, 1)) (hp : post (some v) σ) : Tn d M pc T σ L [v] post := fun _ _ _ => ⟨_, _, wp_aret hr hrt hv hd, hp⟩
theorem tn_tableOut {dflt lo hi : Int} {offs : Array Int} {len : Nat} {x : Int} {tgt : Nat} (hd : decode M.2.1 pc = .ok (.tableswitch dflt lo hi offs, len)) (hx : inR x) (h : x < lo ∨ hi < x) (ht : (pc : Int) + dflt = (tgt : Int)) (k : Tn d M tgt T σ L st post) : Tn d M pc T σ L (.int (iI x) :: st) post := fun P0 sz hs => by
  obtain ⟨r, σ2, w, hp⟩ := k P0 sz hs
  exact ⟨r, σ2, wp_tableOut hd (by rw [iI_toInt hx]; exact h) ht w, hp⟩
theorem tn_tableIn {dflt lo hi : Int} {offs : Array Int} {len : Nat} {x off : Int} {tgt : Nat} (hd : decode M.2.1 pc = .ok (.tableswitch dflt lo hi offs, len)) (hx : inR x) (h1 : ¬ x < lo) (h2 : ¬ hi < x) (ho : offs[(x - lo).toNat]? = some off) (ht : (pc : Int) + off = (tgt : Int)) (k : Tn d M tgt T σ L st post) : Tn d M pc T σ L (.int (iI x) :: st) post := fun P0 sz hs => by
  obtain ⟨r, σ2, w, hp⟩ := k P0 sz hs
  exact ⟨r, σ2, wp_tableIn hd (by rw [iI_toInt hx]; exact h1) (by rw [iI_toInt hx]; exact h2) (by rw [iI_toInt hx]; exact ho) ht w, hp⟩
theorem tn_ifnonnull {x : Nat} {off : Int} {tgt : Nat} (hd : decode M.2.1 pc = .ok (.ifnonnull off, 3)) (ht : (pc : Int) + off = (tgt : Int)) (k : Tn d M tgt T σ L st post) : Tn d M pc T σ L (.ref x :: st) post := fun P0 sz hs => by
  obtain ⟨r, σ2, w, hp⟩ := k P0 sz hs
  exact ⟨r, σ2, wp_ifnonnull hd ht w, hp⟩
theorem tn_ifnull {x : Nat} {off : Int} (hd : decode M.2.1 pc = .ok (.ifnull off, 3)) (k : Tn d M (pc + 3) T σ L st post) : Tn d M pc T σ L (.ref x :: st) post := fun P0 sz hs => by
  obtain ⟨r, σ2, w, hp⟩ := k P0 sz hs
  exact ⟨r, σ2, wp_ifnull hd w, hp⟩
theorem tn_ifnullN {off : Int} {tgt : Nat} (hd : decode M.2.1 pc = .ok (.ifnull off, 3)) (ht : (pc : Int) + off = (tgt : Int)) (k : Tn d M tgt T σ L st post) : Tn d M pc T σ L (.null :: st) post := fun P0 sz hs => by
  obtain ⟨r, σ2, w, hp⟩ := k P0 sz hs
  exact ⟨r, σ2, wp_ifnullN hd ht w, hp⟩
theorem tn_ifnonnullN {off : Int} (hd : decode M.2.1 pc = .ok (.ifnonnull off, 3)) (k : Tn d M (pc + 3) T σ L st post) : Tn d M pc T σ L (.null :: st) post := fun P0 sz hs => by
  obtain ⟨r, σ2, w, hp⟩ := k P0 sz hs
  exact ⟨r, σ2, wp_ifnonnullN hd w, hp⟩
theorem tn_mmax {ix : Nat} {x y : Int} (hd : decode M.2.1 pc = .ok (.invokestatic ix, 3)) (h1 : Cond.methodLink M.1.cls ix Lib.Math.max.name ∈ pWW) (h2 : Cond.static Lib.Math.max.name ∈ pWW) (h3 : Cond.initialized "java/lang/Math" ∈ pWW) (h4 : Cond.code Lib.Math.max.name Lib.Math.max.code 2 (some .int) ∈ pWW) (hd1 : 0 < d) (hcat : (st.map fun v => v.category).sum ≤ 8) (hx : inR x) (hy : inR y) (kk : ∀ z, (x ≤ z ∧ y ≤ z) ∧ (z = x ∨ z = y) → Tn d M (pc + 3) T σ L (.int (iI z) :: st) post) : Tn d M pc T σ L (.int (iI y) :: .int (iI x) :: st) post := fun P0 sz hs => by
  by_cases h : x < y
  · obtain ⟨r, σ2, w, hp⟩ := kk y (by omega) P0 sz hs
    exact ⟨r, σ2, wp_mmax hd h1 h2 h3 h4 hd1 hcat (Nat.le_refl _) (by rw [if_pos ((iI_lt hx hy).mpr h)]; exact w), hp⟩
  · obtain ⟨r, σ2, w, hp⟩ := kk x (by omega) P0 sz hs
    exact ⟨r, σ2, wp_mmax hd h1 h2 h3 h4 hd1 hcat (Nat.le_refl _) (by rw [if_neg (fun q => h ((iI_lt hx hy).mp q))]; exact w), hp⟩
theorem tn_mmin {ix : Nat} {x y : Int} (hd : decode M.2.1 pc = .ok (.invokestatic ix, 3)) (h1 : Cond.methodLink M.1.cls ix Lib.Math.min.name ∈ pWW) (h2 : Cond.static Lib.Math.min.name ∈ pWW) (h3 : Cond.initialized "java/lang/Math" ∈ pWW) (h4 : Cond.code Lib.Math.min.name Lib.Math.min.code 2 (some .int) ∈ pWW) (hd1 : 0 < d) (hcat : (st.map fun v => v.category).sum ≤ 8) (hx : inR x) (hy : inR y) (kk : ∀ z, (z ≤ x ∧ z ≤ y) ∧ (z = x ∨ z = y) → Tn d M (pc + 3) T σ L (.int (iI z) :: st) post) : Tn d M pc T σ L (.int (iI y) :: .int (iI x) :: st) post := fun P0 sz hs => by
  by_cases h : y < x
  · obtain ⟨r, σ2, w, hp⟩ := kk y (by omega) P0 sz hs
    exact ⟨r, σ2, wp_mmin hd h1 h2 h3 h4 hd1 hcat (Nat.le_refl _) (by rw [if_pos ((iI_lt hy hx).mpr h)]; exact w), hp⟩
  · obtain ⟨r, σ2, w, hp⟩ := kk x (by omega) P0 sz hs
    exact ⟨r, σ2, wp_mmin hd h1 h2 h3 h4 hd1 hcat (Nat.le_refl _) (by rw [if_neg (fun q => h ((iI_lt hy hx).mp q))]; exact w), hp⟩
/-- calls -/
theorem tn_callV {M' : MT} {ix ci N : Nat} {CN : String} {Tt : u_T} {L1 : List (Nat × Value)} {rest As : List Value} {post1 : Option Value → MS → Prop} (hd : decode M.2.1 pc = .ok (.invokevirtual ix, 3)) (hM : pOk M') (hin : Cond.instanceMethod M'.1 ∈ pWW) (hse : Cond.selects M'.1.cls M'.1 M'.1 ∈ pWW) (hlink : Cond.methodLink M.1.cls ix M'.1 ∈ pWW) (hnp : (parseMethodDescriptor M'.1.desc).map (fun d => d.parameters.length) = some As.length) (hq : vwCl[ci]? = some (CN, Tt, N)) (hqc : CN = M'.1.cls) (ha : OB T a ci) (hL : lv_args 0 (.ref a :: As) = L1) (hlen : (lg_sl (.ref a :: As)).length ≤ M'.2.2.1) (hcat : (rest.map fun v => v.category).sum ≤ 8) {st : List Value} (hst0 : st = As.reverse ++ .ref a :: rest) (h1 : Tn d M' 0 T σ L1 [] post1) (h2 : ∀ r σ1, post1 r σ1 → Tn (d + 1) M (pc + 3) T σ1 L (r.toList ++ rest) post) : Tn (d + 1) M pc T σ L st post := fun P0 sz hs => by
  obtain ⟨r1, σ1, w1, p1⟩ := h1 P0 sz hs
  obtain ⟨r2, σ2, w2, p2⟩ := h2 r1 σ1 p1 P0 sz hs
  exact ⟨r2, σ2, wp_callV (ci := ci) (q := (CN, Tt, N)) (o1 := (r1, ovC T σ1 P0, sz, 0)) (o2 := (r2, ovC T σ2 P0, sz, 0)) hd hM hin hse hlink hnp hq hqc (ovC_ob ha) hL hlen hcat (Nat.le_refl _) (Nat.le_refl _) hst0 w1 w2, p2⟩
theorem tn_callVN {M' : MT} {ix ci N : Nat} {host CN : String} {Tt : u_T} {L1 : List (Nat × Value)} {rest As : List Value} {post1 : Option Value → MS → Prop} (hd : decode M.2.1 pc = .ok (.invokevirtual ix, 3)) (hM : pOk M') (hin : Cond.instanceMethod M'.1 ∈ pWW) (hse : Cond.selects M'.1.cls M'.1 M'.1 ∈ pWW) (hlink : (M.1.cls, ix, M'.1, host) ∈ nst_M) (hnp : (parseMethodDescriptor M'.1.desc).map (fun d => d.parameters.length) = some As.length) (hq : vwCl[ci]? = some (CN, Tt, N)) (hqc : CN = M'.1.cls) (ha : OB T a ci) (hL : lv_args 0 (.ref a :: As) = L1) (hlen : (lg_sl (.ref a :: As)).length ≤ M'.2.2.1) (hcat : (rest.map fun v => v.category).sum ≤ 8) {st : List Value} (hst0 : st = As.reverse ++ .ref a :: rest) (h1 : Tn d M' 0 T σ L1 [] post1) (h2 : ∀ r σ1, post1 r σ1 → Tn (d + 1) M (pc + 3) T σ1 L (r.toList ++ rest) post) : Tn (d + 1) M pc T σ L st post := fun P0 sz hs => by
  obtain ⟨r1, σ1, w1, p1⟩ := h1 P0 sz hs
  obtain ⟨r2, σ2, w2, p2⟩ := h2 r1 σ1 p1 P0 sz hs
  exact ⟨r2, σ2, wp_callVN (ci := ci) (q := (CN, Tt, N)) (o1 := (r1, ovC T σ1 P0, sz, 0)) (o2 := (r2, ovC T σ2 P0, sz, 0)) hd hM hin hse hlink hnp hq hqc (ovC_ob ha) hL hlen hcat (Nat.le_refl _) (Nat.le_refl _) hst0 w1 w2, p2⟩
theorem tn_callS {M' : MT} {ix : Nat} {L1 : List (Nat × Value)} {rest As : List Value} {post1 : Option Value → MS → Prop} (hd : decode M.2.1 pc = .ok (.invokestatic ix, 3)) (hM : pOk M') (hstt : Cond.static M'.1 ∈ pWW) (hlink : Cond.methodLink M.1.cls ix M'.1 ∈ pWW) (hnp : (parseMethodDescriptor M'.1.desc).map (fun d => d.parameters.length) = some As.length) (hL : lv_args 0 As = L1) (hlen : (lg_sl As).length ≤ M'.2.2.1) (hcat : (rest.map fun v => v.category).sum ≤ 8) {st : List Value} (hst0 : st = As.reverse ++ rest) (h1 : Tn d M' 0 T σ L1 [] post1) (h2 : ∀ r σ1, post1 r σ1 → Tn (d + 1) M (pc + 3) T σ1 L (r.toList ++ rest) post) : Tn (d + 1) M pc T σ L st post := fun P0 sz hs => by
  obtain ⟨r1, σ1, w1, p1⟩ := h1 P0 sz hs
  obtain ⟨r2, σ2, w2, p2⟩ := h2 r1 σ1 p1 P0 sz hs
  exact ⟨r2, σ2, wp_callS (o1 := (r1, ovC T σ1 P0, sz, 0)) (o2 := (r2, ovC T σ2 P0, sz, 0)) hd hM hstt hlink hnp hL hlen hcat (Nat.le_refl _) (Nat.le_refl _) hst0 w1 w2, p2⟩
theorem tn_callSN {M' : MT} {ix : Nat} {host : String} {L1 : List (Nat × Value)} {rest As : List Value} {post1 : Option Value → MS → Prop} (hd : decode M.2.1 pc = .ok (.invokestatic ix, 3)) (hM : pOk M') (hstt : Cond.static M'.1 ∈ pWW) (hlink : (M.1.cls, ix, M'.1, host) ∈ nst_M) (hnp : (parseMethodDescriptor M'.1.desc).map (fun d => d.parameters.length) = some As.length) (hL : lv_args 0 As = L1) (hlen : (lg_sl As).length ≤ M'.2.2.1) (hcat : (rest.map fun v => v.category).sum ≤ 8) {st : List Value} (hst0 : st = As.reverse ++ rest) (h1 : Tn d M' 0 T σ L1 [] post1) (h2 : ∀ r σ1, post1 r σ1 → Tn (d + 1) M (pc + 3) T σ1 L (r.toList ++ rest) post) : Tn (d + 1) M pc T σ L st post := fun P0 sz hs => by
  obtain ⟨r1, σ1, w1, p1⟩ := h1 P0 sz hs
  obtain ⟨r2, σ2, w2, p2⟩ := h2 r1 σ1 p1 P0 sz hs
  exact ⟨r2, σ2, wp_callSN (o1 := (r1, ovC T σ1 P0, sz, 0)) (o2 := (r2, ovC T σ2 P0, sz, 0)) hd hM hstt hlink hnp hL hlen hcat (Nat.le_refl _) (Nat.le_refl _) hst0 w1 w2, p2⟩
theorem tn_sub {L' : List (Nat × Value)} (ks : List Nat) (h : lv_pick L ks = L') (k : Tn d M pc T σ L' st post) : Tn d M pc T σ L st post := fun P0 sz hs => by
  obtain ⟨r, σ2, w, hp⟩ := k P0 sz hs
  exact ⟨r, σ2, wp_sub ks h w, hp⟩
theorem Tn.mono {post2 : Option Value → MS → Prop} (k : Tn d M pc T σ L st post) (h : ∀ r s, post r s → post2 r s) : Tn d M pc T σ L st post2 := fun P0 sz hs => by
  obtain ⟨r, σ2, w, hp⟩ := k P0 sz hs
  exact ⟨r, σ2, w, h _ _ hp⟩
/-- a number that may wrap -/
theorem tn_any {x : Int} (kk : ∀ z, inR z → Tn d M pc T σ L (.int (iI z) :: st) post) : Tn d M pc T σ L (.int (iI x) :: st) post := by
  rw [← wr_eq x]
  exact kk _ (wr_rng x)
theorem tn_anyI {x : Int32} (kk : ∀ z, inR z → Tn d M pc T σ L (.int (iI z) :: st) post) : Tn d M pc T σ L (.int x :: st) post := by
  rw [← iI_self x]
  exact kk _ (inR_toInt x)
end TNH

