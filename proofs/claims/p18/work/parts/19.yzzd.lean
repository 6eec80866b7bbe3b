section
def MK.e34 (m : MK) : MK := ((m.rt + 1, m.ln, m.fs, m.lab, m.tmp), m.2.1, m.2.2.1, m.S, (uZ m.2.2.2.2.1 m.rt (m.n, m.V), uZ m.2.2.2.2.2 m.rt m.fs))
def MK.e35 (m : MK) : MK := ((m.rt, m.ln, 0, 0, 0), (0, fun _ => zI), m.2.2.1, [(11, 0, 0, [])], m.2.2.2.2)
section GRS
variable {S : Int → Int} {nm : Int → Int64 → Int} {rn : Int64 → Int} {tb : Int → Int} {j : Nat} {x : Int × Int × Int} {q : QR}
theorem gr30 (hS : SB S) (h : ckd (tkS S j) = 256) : GCM S nm rn tb [30] j x q [140, 31] (j + 1) x (q.1, q.2.1, q.2.2.1, 0, (tkS S j).1) id := GCM.st (fun t a => ⟨(advT S t.2.1), _, a.nx, (if_pos ((kdN hS a).mp h)).trans (by rw [a.1]), fun m => rfl⟩)
theorem gr31y (hS : SB S) (h : ckd (tkS S j) = 41) : GCM S nm rn tb [31] j x q [141, 35] j x q id := GCM.st (fun t a => ⟨t, _, a, if_pos ((kdS hS a (c := 41) (by decide)).mp h), fun m => rfl⟩)
theorem gr31n (hS : SB S) (h : ckd (tkS S j) ≠ 41) : GCM S nm rn tb [31] j x q [32] j x q id := GCM.st (fun t a => ⟨t, _, a, if_neg (fun z => absurd ((kdS hS a (c := 41) (by decide)).mpr z) h), fun m => rfl⟩)
theorem gr32 (hS : SB S) (h : ckd (tkS S j) = 256) : GCM S nm rn tb [32] j x q [33] (j + 1) x (q.1, q.2.1, q.2.2.1, q.2.2.2.1 + 1, q.2.2.2.2) id := GCM.st (fun t a => ⟨(advT S t.2.1), _, a.nx, if_pos ((kdN hS a).mp h), fun m => rfl⟩)
theorem gr33y (hS : SB S) (h : ckd (tkS S j) = 44) : GCM S nm rn tb [33] j x q [32] (j + 1) x q id := GCM.st (fun t a => ⟨(advT S t.2.1), _, a.nx, if_pos ((kdS hS a (c := 44) (by decide)).mp h), fun m => rfl⟩)
theorem gr33n (hS : SB S) (h : ckd (tkS S j) ≠ 44) : GCM S nm rn tb [33] j x q [141, 35] j x q id := GCM.st (fun t a => ⟨t, _, a, if_neg (fun z => absurd ((kdS hS a (c := 44) (by decide)).mpr z) h), fun m => rfl⟩)
theorem gr34 (hS : SB S) : GCM S nm rn tb [34] j x q [] j x (q.1, q.2.1, q.2.2.1, q.2.2.2.1, 0) (fun m => m.e34) := GCM.st (fun t a => ⟨t, _, a, rfl, fun m => rfl⟩)
theorem gr35 (hS : SB S) : GCM S nm rn tb [35] j x q [28, 51, 34] j (x.1, x.2.1, 0) (q.1, q.2.1, q.2.2.1, 0, q.2.2.2.2) (fun m => m.e35) := GCM.st (fun t a => ⟨t, _, a, rfl, fun m => rfl⟩)
theorem gr36y (hS : SB S) (h : ckd (tkS S j) = 264) : GCM S nm rn tb [36] j x q [] j x q id := GCM.st (fun t a => ⟨t, _, a, if_pos ((kdE hS a).mp h), fun m => rfl⟩)
theorem gr36n (hS : SB S) (h : ckd (tkS S j) ≠ 264) : GCM S nm rn tb [36] j x q [30, 36] j x q id := GCM.st (fun t a => ⟨t, _, a, if_neg (fun z => absurd ((kdE hS a).mpr z) h), fun m => rfl⟩)
theorem gr140 (hS : SB S) (h : ckd (tkS S j) = 40) : GCM S nm rn tb [140] j x q [] (j + 1) x q id := GCM.st (fun t a => ⟨(advT S t.2.1), _, a.nx, if_pos ((kdS hS a (c := 40) (by decide)).mp h), fun m => rfl⟩)
theorem gr141 (hS : SB S) (h : ckd (tkS S j) = 41) : GCM S nm rn tb [141] j x q [] (j + 1) x q id := GCM.st (fun t a => ⟨(advT S t.2.1), _, a.nx, if_pos ((kdS hS a (c := 41) (by decide)).mp h), fun m => rfl⟩)
end GRS
section PRMS
variable {S : Int → Int} {nm : Int → Int64 → Int} {rn : Int64 → Int} {tb : Int → Int} {j i i2 i3 : Nat} {rp k m : Int} {m0 m1 : MK}
def PRM (S : Int → Int) (j : Nat) (rp : Int) (ls : List Nat) (i : Nat) (k : Int) : Prop := ∀ (nm : Int → Int64 → Int) (rn : Int64 → Int) (tb : Int → Int) (N : Int), GCM S nm rn tb [31] j (0, 0, N) (0, 0, 0, 0, rp) ls i (0, 0, N) (0, 0, 0, k, rp) id
theorem PRM.one (hS : SB S) (h : PRM S j rp [32] i k) (hk : ckd (tkS S i) = 256) : PRM S j rp [33] (i + 1) (k + 1) := fun nm rn tb N => (h nm rn tb N).gg (gr32 hS hk)
theorem PRM.comma (hS : SB S) (h : PRM S j rp [33] i k) (hk : ckd (tkS S i) = 44) : PRM S j rp [32] (i + 1) k := fun nm rn tb N => (h nm rn tb N).gg (gr33y hS hk)
theorem PRM.done (hS : SB S) (h : PRM S j rp [33] i k) (hk : ckd (tkS S i) ≠ 44) : PRM S j rp [141, 35] i k := fun nm rn tb N => (h nm rn tb N).gg (gr33n hS hk)
theorem PRM.none (hS : SB S) (hk : ckd (tkS S j) = 41) : PRM S j rp [141, 35] j 0 := fun nm rn tb N => gr31y hS hk
theorem PRM.some (hS : SB S) (hk : ckd (tkS S j) ≠ 41) : PRM S j rp [32] j 0 := fun nm rn tb N => gr31n hS hk
def HRM (S : Int → Int) (j i : Nat) (k : Int) : Prop := ∀ (nm : Int → Int64 → Int) (rn : Int64 → Int) (tb : Int → Int) (N : Int), GCM S nm rn tb [30] j (0, 0, N) (0, 0, 0, 0, 0) [35] i (0, 0, N) (0, 0, 0, k, (tkS S j).1) id
theorem HRM.ok (hS : SB S) (hk : ckd (tkS S j) = 256) (h40 : ckd (tkS S (j + 1)) = 40) (pr : PRM S (j + 1 + 1) (tkS S j).1 [141, 35] i k) (h41 : ckd (tkS S i) = 41) : HRM S j (i + 1) k := fun nm rn tb N => by
  have a : GCM S nm rn tb [30] j (0, 0, N) (0, 0, 0, 0, 0) [140, 31] (j + 1) (0, 0, N) (0, 0, 0, 0, (tkS S j).1) id := gr30 hS hk
  have b : GCM S nm rn tb [140, 31] (j + 1) (0, 0, N) (0, 0, 0, 0, (tkS S j).1) [31] (j + 1 + 1) (0, 0, N) (0, 0, 0, 0, (tkS S j).1) id := (gr140 hS h40).ml [31]
  have c : GCM S nm rn tb [141, 35] i (0, 0, N) (0, 0, 0, k, (tkS S j).1) [35] (i + 1) (0, 0, N) (0, 0, 0, k, (tkS S j).1) id := (gr141 hS h41).ml [35]
  exact ((a.gg b).gg (pr nm rn tb N)).gg c
def GCW (S : Int → Int) (nm : Int → Int64 → Int) (rn : Int64 → Int) (tb : Int → Int) (ks : List Nat) (j : Nat) (x : Int × Int × Int) (q : QR) (m0 : MK) (ls : List Nat) (i : Nat) (y : Int × Int × Int) (p : QR) (m1 : MK) : Prop := ∀ t, TEQ t (tkS S j) → ∃ (t' : TK) (l : List EV), TEQ t' (tkS S i) ∧ ∀ (K : List Nat) (ρ : List EV), RM S nm rn tb (ks ++ K, t, x, q, ρ) m0 (ls ++ K, t', y, p, ρ ++ l) m1
theorem GCW.of {ks ls : List Nat} {x y : Int × Int × Int} {q p : QR} {F : MK → MK} (h : GCM S nm rn tb ks j x q ls i y p F) (e : F m0 = m1) : GCW S nm rn tb ks j x q m0 ls i y p m1 := fun t a => by
  obtain ⟨t', l, a1, a2⟩ := h t a
  exact ⟨t', l, a1, fun K ρ => by rw [← e]; exact a2 K ρ m0⟩
theorem GCW.gg {ks ls ms : List Nat} {x y z : Int × Int × Int} {q p r : QR} {m2 : MK} {k : Nat} (h : GCW S nm rn tb ks j x q m0 ls i y p m1) (g : GCW S nm rn tb ls i y p m1 ms k z r m2) : GCW S nm rn tb ks j x q m0 ms k z r m2 := fun t a => by
  obtain ⟨t1, l1, a1, b1⟩ := h t a
  obtain ⟨t2, l2, a2, b2⟩ := g t1 a1
  refine ⟨t2, l1 ++ l2, a2, fun K ρ => ?_⟩
  have w := b2 K (ρ ++ l1)
  rw [List.append_assoc] at w
  exact (b1 K ρ).trans w
theorem GCW.ml {ks ls : List Nat} {x y : Int × Int × Int} {q p : QR} (n : List Nat) (h : GCW S nm rn tb ks j x q m0 ls i y p m1) : GCW S nm rn tb (ks ++ n) j x q m0 (ls ++ n) i y p m1 := fun t a => by
  obtain ⟨t1, l1, a1, b1⟩ := h t a
  refine ⟨t1, l1, a1, fun K ρ => ?_⟩
  rw [List.append_assoc, List.append_assoc]
  exact b1 (n ++ K) ρ
theorem GW.cw {ks ls : List Nat} {e b f d n : Int} {u w : UR} (h : GW S nm rn tb ks j e b u m0 ls i f d w n m1) (N pm rp : Int) : GCW S nm rn tb ks j (e, b, N) (u.1, u.2.1, u.2.2, pm, rp) m0 ls i (f, d, N + n) (w.1, w.2.1, w.2.2, pm, rp) m1 := h N pm rp
def TXW (S : Int → Int) (nm : Int → Int64 → Int) (rn : Int64 → Int) (tb : Int → Int) (z0 : MK) (i : Nat) (N : Int) (m : MK) : Prop := GCW S nm rn tb [36] 0 (0, 0, 0) (qq 0) z0 [36] i (0, 0, N) (qq 0) m
theorem TXW.on {z0 : MK} {N : Int} {k m' : Int} (hS : SB S) (h : TXW S nm rn tb z0 i N m0) (hk : ckd (tkS S i) ≠ 264) (hd : HRM S i i2 k) (gb : GW S nm rn tb [28] i2 0 0 u0 m0.e35 [] i3 0 0 u0 m' m1) : TXW S nm rn tb z0 i3 (0 + m' + 1) (m1.one tb).e34 := by
  have q1 : GCW S nm rn tb [36] i (0, 0, N) (qq 0) m0 [30, 36] i (0, 0, N) (qq 0) m0 := GCW.of (gr36n hS hk) rfl
  have q2 : GCW S nm rn tb [30, 36] i (0, 0, N) (qq 0) m0 [35, 36] i2 (0, 0, N) (0, 0, 0, k, (tkS S i).1) m0 := GCW.ml [36] (GCW.of (hd nm rn tb N) rfl)
  have q3 : GCW S nm rn tb [35, 36] i2 (0, 0, N) (0, 0, 0, k, (tkS S i).1) m0 [28, 51, 34, 36] i2 (0, 0, 0) (0, 0, 0, 0, (tkS S i).1) m0.e35 := GCW.ml [36] (GCW.of (gr35 hS) rfl)
  have q4 : GCW S nm rn tb [28, 51, 34, 36] i2 (0, 0, 0) (0, 0, 0, 0, (tkS S i).1) m0.e35 [51, 34, 36] i3 (0, 0, 0 + m') (0, 0, 0, 0, (tkS S i).1) m1 := GCW.ml [51, 34, 36] (gb.cw 0 0 (tkS S i).1)
  have q5 : GCW S nm rn tb [51, 34, 36] i3 (0, 0, 0 + m') (0, 0, 0, 0, (tkS S i).1) m1 [34, 36] i3 (0, 0, 0 + m' + 1) (0, 0, 0, 0, (tkS S i).1) (m1.one tb) := GCW.ml [34, 36] ((GW.of (gm51 (e := 0) (b := 0) (u := u0) hS) rfl).cw (0 + m') 0 (tkS S i).1)
  have q6 : GCW S nm rn tb [34, 36] i3 (0, 0, 0 + m' + 1) (0, 0, 0, 0, (tkS S i).1) (m1.one tb) [36] i3 (0, 0, 0 + m' + 1) (qq 0) (m1.one tb).e34 := GCW.ml [36] (GCW.of (gr34 hS) rfl)
  exact ((((h.gg q1).gg q2).gg q3).gg q4).gg (q5.gg q6)
end PRMS
def PSM (σ : MS) (a : Nat) (S : Int → Int) (n j : Nat) (c : CS) (N rp : Int) (Tg : CT) (g : MS) (T : CT) (mx : MK) : Prop := ∃ (i : Nat) (es : List EW) (k : Int), (j : Int) ≤ i ∧ PR S j rp [141, 35] i k es ∧ RDX σ a S n i (es.foldl uC c) N ∧ (es.foldl uC c).rn = c.rn ∧ NI2 es ∧ MG Tg g T σ a mx ∧ PRM S j rp [141, 35] i k ∧ (∀ d : Nat, σ.2.1 35 a = (d : Int) → (k ≤ 4 → σ.2.1 8 d = k)) ∧ (es.foldl uC c).rp (c.rn - 1) = k
theorem uC3_rp {c : CS} {p m : Int} {w : Int64} : (uC c (3, p, m, w)).rp (c.rn - 1) = m + 1 := by
  rw [uC3]
  show up1 c.rp (c.rn - 1) (m + 1) (c.rn - 1) = m + 1
  unfold up1
  rw [if_pos rfl]
def PQM (σ : MS) (a : Nat) (S : Int → Int) (n j : Nat) (c : CS) (N rp v : Int) (Tg : CT) (g : MS) (T : CT) (mx : MK) : Prop := (v = 1 → PSM σ a S n j c N rp Tg g T mx) ∧ (v = 0 → (∃ p, PRF S j rp p ∧ FLC σ a p) ∧ FG Tg g T σ a)
def PLM (σ : MS) (a : Nat) (S : Int → Int) (n j : Nat) (c : CS) (N rp k : Int) (Tg : CT) (g : MS) (T : CT) (mx : MK) : Prop := ∃ (i : Nat) (es : List EW), (j : Int) + k ≤ i ∧ PR S j rp [32] i k es ∧ RDX σ a S n i (es.foldl uC c) N ∧ (es.foldl uC c).rn = c.rn ∧ NI2 es ∧ MG Tg g T σ a mx ∧ PRM S j rp [32] i k
theorem MG.f8 {Tg T : CT} {g σ : MS} {a d : Nat} {m : MK} {v : Int} (h : MG Tg g T σ a m) (hd : σ.2.1 35 a = (d : Int)) : MG Tg g T (sA 8 d v σ) a m := h.fld (by rw [← h.cd hd]; simp) (by decide) (by decide)
end
section
set_option maxHeartbeats 1000000 in
set_option maxRecDepth 20000 in
theorem k_X5_parameter_m (d : Nat) {T : CT} {σ : MS} {a : Nat} {c : Int} {Sx : Int → Int} {nx jx : Nat} {cx : CS} {Nx : Int} {Tg : CT} {gs : MS} {mx : MK} (ha : OB T a 5) (h_c : -2147483648 ≤ c ∧ c ≤ 2147483647) (hw : WT T σ) (hc : 1 ≤ c) (hfx : RDX σ a Sx nx jx cx Nx) (hkd : ckd (tkS Sx jx) = 256) (hrn : 1 ≤ cx.rn ∧ cx.rn ≤ 256) (hmg : MG Tg gs T σ a mx) (hgf : gs.1 5 = 0) : Tn (d + 3) m_X5_parameter 0 T σ [(0, .ref a), (1, .int (iI c))] [] (fun ro T2 σ2 => ro = none ∧ T = T2 ∧ WT T2 σ2 ∧ FrC T [7, 8, 43, 44, 517, 521] σ σ2 ∧ (RDX σ2 a Sx nx jx (uC cx (3, (tkS Sx jx).1, c - 1, (tkS Sx jx).2.2.2.2)) Nx) ∧ (MG Tg gs T σ2 a mx) ∧ (∀ d : Nat, σ2.2.1 35 a = (d : Int) → (c ≤ 4 → σ2.2.1 8 d = c))) := by
  have hSb := hfx.1.sb
  have e38 : σ.2.1 38 a = cx.rn := hfx.1.2.1.1.2.2.1
  refine tn_aload_n dX5_parameter_0 rfl 0 rfl ?_
  refine tn_aload_n dX5_parameter_1 rfl 0 rfl ?_
  obtain ⟨xq1, hx2, hk3⟩ : ∃ x : Nat, σ.2.1 33 a = (x : Int) ∧ (T x).1 = 39 := wf_33 hw ha
  have hk3o : OB T xq1 9 := ⟨by omega, by rw [hk3]; rfl, by omega⟩
  refine tn_getR (ci := 5) (i := 0) (n := 33) (x := xq1) dX5_parameter_2 rfl lay_5 (by decide) fl5_12 ha rfl rfl (hx2) ?_
  refine tn_getI (ci := 9) (i := 5) (n := 86) (t := σ.2.1 86 xq1) dX5_parameter_5 rfl lay_9 (by decide) fl5_96 hk3o rfl rfl (rfl) ?_
  have g5 : ((-2147483648 : Int) ≤ σ.2.1 86 xq1 ∧ σ.2.1 86 xq1 ≤ 2147483647) := wf_86 hw hk3o
  have g5ky : NKY (tkS Sx jx) (σ.2.1 86 xq1) := by rw [← show σ.2.1 86 xq1 = σ.2.1 86 xq1 from rfl]; exact (hfx).1.ky (hx2)
  refine tn_callV (M := m_X5_parameter) (pc := 8) (ix := 173) (ci := 5) (M' := m_X5_nameIndex) (As := [.int (iI (σ.2.1 86 xq1))]) (rest := []) dX5_parameter_8 ok_X5_nameIndex im_X5_nameIndex se_X5_nameIndex ml5_173 np_X5_nameIndex rfl rfl ha rfl (Nat.le_of_ble_eq_true rfl) (Nat.le_of_ble_eq_true rfl) rfl (k_X5_nameIndex_f (d + 1) (T := T) (σ := σ) (a := a) (k := σ.2.1 86 xq1) ha (by omega) hw ) (fun r6 T8 σ7 gt9 hp => ?_)
  obtain ⟨v12, rfl, rfl, rfl, f10, f11⟩ := hp
  clear gt9
  have nf13k : KW (σ.2.1 86 xq1) (tkS Sx jx).2.2.2.2 := g5ky.kw ((ck_nam (tkS_v hSb jx)).mp hkd).1
  have nf13 : v12 ≠ -1 ↔ fndC cx (tkS Sx jx).2.2.2.2 := NIQ.fd f11 hfx.2.1 hw ha nf13k
  show Tn _ _ 11 T σ [(0, .ref a), (1, .int (iI c))] [.int (iI v12)] _
  refine tn_iconst dX5_parameter_11 ?_
  refine tn_icmp_eq (tgt := 27) dX5_parameter_12 (by decide) ⟨by omega, by omega⟩ ⟨by decide, by decide⟩ (fun h14 => ?_) (fun h14 => ?_)
  · refine tn_iload_n dX5_parameter_27 rfl 1 rfl ?_
    refine tn_iconst dX5_parameter_28 ?_
    refine tn_icmp_le (tgt := 44) dX5_parameter_29 (by decide) ⟨by omega, by omega⟩ ⟨by decide, by decide⟩ (fun h15 => ?_) (fun h15 => ?_)
    · refine tn_aload_n dX5_parameter_44 rfl 0 rfl ?_
      refine tn_callV (M := m_X5_parameter) (pc := 45) (ix := 176) (ci := 5) (M' := m_X5_register) (As := []) (rest := []) dX5_parameter_45 ok_X5_register im_X5_register se_X5_register ml5_176 np_X5_register rfl rfl ha rfl (Nat.le_of_ble_eq_true rfl) (Nat.le_of_ble_eq_true rfl) rfl (k_X5_register_m (d) (T := T) (σ := σ) (a := a) (Tg := Tg) (gs := gs) (mx := mx) ha hw hfx hkd hmg) (fun r16 T18 σ17 gt19 hp => ?_)
      obtain ⟨v24, rfl, rfl, w25, F26, f20, f21, f22, f23⟩ := hp
      clear gt19
      show Tn _ _ 48 T σ17 [(0, .ref a), (1, .int (iI c))] [.int (iI v24)] _
      refine tn_pop dX5_parameter_48 rfl ?_
      refine tn_aload_n dX5_parameter_49 rfl 0 rfl ?_
      obtain ⟨xq27, hx28, hk29, hl30⟩ : ∃ x : Nat, σ.2.1 37 a = (x : Int) ∧ AR T x 17 256 256 := wf_37 hw ha
      have hk29i : IA T xq27 := by unfold IA; omega
      refine tn_getR (ci := 5) (i := 4) (n := 37) (x := xq27) dX5_parameter_50 rfl lay_5 (by decide) fl5_28 ha rfl rfl (rc_F F26 (Or.inl (by decide)) (by decide) (hx28)) ?_
      refine tn_aload_n dX5_parameter_53 rfl 0 rfl ?_
      refine tn_getI (ci := 5) (i := 5) (n := 38) (t := σ.2.1 38 a) dX5_parameter_54 rfl lay_5 (by decide) fl5_58 ha rfl rfl (rc_F F26 (Or.inl (by decide)) (by decide) (rfl)) ?_
      have g31 : ((0 : Int) ≤ σ.2.1 38 a ∧ σ.2.1 38 a ≤ 256) := wf_38 hw ha
      refine tn_iconst dX5_parameter_57 ?_
      refine tn_isub dX5_parameter_58 ?_
      refine tn_iload_n dX5_parameter_59 rfl 1 rfl ?_
      refine tn_callSN (M := m_X5_parameter) (pc := 60) (ix := 129) (M' := m_X11_put) (As := [.ref xq27, .int (iI ((σ.2.1 38 a) - 1)), .int (iI c)]) (rest := []) dX5_parameter_60 ok_X11_put stt_X11_put nl5_129 np_X11_put rfl (Nat.le_of_ble_eq_true rfl) (Nat.le_of_ble_eq_true rfl) rfl (k_X11_put_17 (d + 1) (T := T) (σ := σ17) (x := xq27) (i := (σ.2.1 38 a) - 1) (y := c) hk29i (by omega) hk29 (by omega) (by omega) w25 ) (fun r32 T34 σ33 gt35 hp => ?_)
      obtain ⟨rfl, rfl, w38, F39, f36⟩ := hp
      clear gt35
      have ar40 : xq27 ∈ RRS gs a ∧ xq27 ≠ adN σ17 5 (adN gs 35 a) := MG.rr f23 w25 ha (by decide) (rc_F F26 (Or.inl (by decide)) (by decide) (hx28)) (ar_of (wf_37 w25 ha) (rc_F F26 (Or.inl (by decide)) (by decide) (hx28))) (by decide) hgf
      have fx41e : σ.2.1 38 a = (uC (cx) (4, (tkS Sx jx).1, 0, (tkS Sx jx).2.2.2.2)).rn := (rc_F F26 (Or.inl (by decide)) (by decide) (rfl)).symm.trans (f21).1.2.1.1.2.2.1
      have fx41 : RDX σ33 a Sx nx jx (rpC (c) (uC (cx) (4, (tkS Sx jx).1, 0, (tkS Sx jx).2.2.2.2))) (Nx) := RDX.rp f21 w25 ha (rc_F F26 (Or.inl (by decide)) (by decide) (hx28)) F39 (by rw [f36, if_pos ⟨by omega, by omega⟩, fx41e])
      show Tn _ _ 63 T σ33 [(0, .ref a), (1, .int (iI c))] [] _
      obtain ⟨xq42, hx43, hk44⟩ : ∃ x : Nat, σ.2.1 35 a = (x : Int) ∧ (T x).1 = 31 := wf_35 hw ha
      have hk44o : OB T xq42 1 := ⟨by omega, by rw [hk44]; rfl, by omega⟩
      refine tn_aload_n dX5_parameter_63 rfl 0 rfl ?_
      refine tn_getR (ci := 5) (i := 2) (n := 35) (x := xq42) dX5_parameter_64 rfl lay_5 (by decide) fl5_47 ha rfl rfl (rc_F F39 (Or.inl (by decide)) (by decide) (rc_F F26 (Or.inl (by decide)) (by decide) (hx43))) ?_
      refine tn_iload_n dX5_parameter_67 rfl 1 rfl ?_
      refine tn_iconst dX5_parameter_68 ?_
      refine tn_mmin (x := c) (y := 4) dX5_parameter_69 mlm5_117 stM_min iniM cdM_min (by omega) (Nat.le_of_ble_eq_true rfl) ⟨by omega, by omega⟩ ⟨by omega, by omega⟩ (fun z46 g47 => ?_)
      refine tn_putV (ci := 1) (i := 3) (n := 8) (r := false) (v := z46) tyX1 tyX1_ok nmX1 dX5_parameter_72 rfl lay_1 (by decide) fl5_180 rfl (tyX1_ok 3 (by decide)) rfl rfl rfl hk44o rfl rfl ?_
      have mg48 : MG Tg gs T (sA 8 xq42 (z46) σ33) a mx := (MG.f8 (MG.pq f23 ar40 f36) (rc_F F39 (Or.inl (by decide)) (by decide) (rc_F F26 (Or.inl (by decide)) (by decide) (hx43))))
      have p849 : ∀ d : Nat, (sA 8 xq42 (z46) σ33).2.1 35 a = (d : Int) → (c ≤ 4 → (sA 8 xq42 (z46) σ33).2.1 8 d = c) := fun d9 hd9 q9 => by
        have z9 : (sA 8 xq42 (z46) σ33).2.1 35 a = (xq42 : Int) := rc_o (by decide) (rc_F F39 (Or.inl (by decide)) (by decide) (rc_F F26 (Or.inl (by decide)) (by decide) (hx43)))
        have z8 : (sA 8 xq42 (z46) σ33).2.1 8 xq42 = z46 := ra_eq
        have e9 : d9 = xq42 := by omega
        rw [e9]; omega
      exact tn_vret rfl dX5_parameter_75 ⟨rfl, rfl, (w38.put (by decide) (by decide) (fo_8 (by omega))), (((FrC.rfl.trans (FrC.sub F26 (by decide))).trans (FrC.sub F39 (by decide))).put (by decide) (by decide)), RDX.cq (fx41.pt (by decide) (by decide)) (by rw [uC3c]; unfold ifN; rw [ifP_f (show ¬ 4 ≤ c - 1 by omega), ifP_f (fun q => absurd (nf13.mpr q) (by omega)), show (c - 1 + 1 : Int) = c by omega]), mg48, p849⟩
    · refine tn_aload_n dX5_parameter_32 rfl 0 rfl ?_
      refine tn_iconst dX5_parameter_33 ?_
      refine tn_aload_n dX5_parameter_34 rfl 0 rfl ?_
      refine tn_getR (ci := 5) (i := 0) (n := 33) (x := xq1) dX5_parameter_35 rfl lay_5 (by decide) fl5_12 ha rfl rfl (hx2) ?_
      refine tn_getI (ci := 9) (i := 6) (n := 87) (t := σ.2.1 87 xq1) dX5_parameter_38 rfl lay_9 (by decide) fl5_74 hk3o rfl rfl (rfl) ?_
      have g50 : ((-2147483648 : Int) ≤ σ.2.1 87 xq1 ∧ σ.2.1 87 xq1 ≤ 2147483647) := wf_87 hw hk3o
      have g50pl : σ.2.1 87 xq1 = (tkS Sx jx).1 := (rfl).symm.trans ((hfx).1.pl (hx2))
      refine tn_callV (M := m_X5_parameter) (pc := 41) (ix := 113) (ci := 5) (M' := m_X5_note) (As := [.int (iI 5), .int (iI (σ.2.1 87 xq1))]) (rest := []) dX5_parameter_41 ok_X5_note im_X5_note se_X5_note ml5_113 np_X5_note rfl rfl ha rfl (Nat.le_of_ble_eq_true rfl) (Nat.le_of_ble_eq_true rfl) rfl (k_X5_note_m (d + 1) (T := T) (σ := σ) (a := a) (f := 5) (p := σ.2.1 87 xq1) ha (by decide) (by omega) hw ) (fun r51 T53 σ52 gt54 hp => ?_)
      obtain ⟨rfl, rfl, w58, F59, f55, f56⟩ := hp
      clear gt54
      have fx60 : RDX σ52 a Sx nx jx (fpC (cntN 5 (σ.2.1 87 xq1) (cx).fp) (cx)) (Nx) := RDX.nt hfx hw ha F59 f55
      show Tn _ _ 44 T σ52 [(0, .ref a), (1, .int (iI c))] [] _
      refine tn_aload_n dX5_parameter_44 rfl 0 rfl ?_
      have mg61 : MG Tg gs T σ52 a mx := (MG.nt hmg f56)
      refine tn_callV (M := m_X5_parameter) (pc := 45) (ix := 176) (ci := 5) (M' := m_X5_register) (As := []) (rest := []) dX5_parameter_45 ok_X5_register im_X5_register se_X5_register ml5_176 np_X5_register rfl rfl ha rfl (Nat.le_of_ble_eq_true rfl) (Nat.le_of_ble_eq_true rfl) rfl (k_X5_register_m (d) (T := T) (σ := σ52) (a := a) (Tg := Tg) (gs := gs) (mx := mx) ha w58 fx60 hkd mg61) (fun r62 T64 σ63 gt65 hp => ?_)
      obtain ⟨v70, rfl, rfl, w71, F72, f66, f67, f68, f69⟩ := hp
      clear gt65
      show Tn _ _ 48 T σ63 [(0, .ref a), (1, .int (iI c))] [.int (iI v70)] _
      refine tn_pop dX5_parameter_48 rfl ?_
      refine tn_aload_n dX5_parameter_49 rfl 0 rfl ?_
      obtain ⟨xq73, hx74, hk75, hl76⟩ : ∃ x : Nat, σ.2.1 37 a = (x : Int) ∧ AR T x 17 256 256 := wf_37 hw ha
      have hk75i : IA T xq73 := by unfold IA; omega
      refine tn_getR (ci := 5) (i := 4) (n := 37) (x := xq73) dX5_parameter_50 rfl lay_5 (by decide) fl5_28 ha rfl rfl (rc_F F72 (Or.inl (by decide)) (by decide) (rc_F F59 (Or.inl (by decide)) (by decide) (hx74))) ?_
      refine tn_aload_n dX5_parameter_53 rfl 0 rfl ?_
      refine tn_getI (ci := 5) (i := 5) (n := 38) (t := σ.2.1 38 a) dX5_parameter_54 rfl lay_5 (by decide) fl5_58 ha rfl rfl (rc_F F72 (Or.inl (by decide)) (by decide) (rc_F F59 (Or.inl (by decide)) (by decide) (rfl))) ?_
      have g77 : ((0 : Int) ≤ σ.2.1 38 a ∧ σ.2.1 38 a ≤ 256) := wf_38 hw ha
      refine tn_iconst dX5_parameter_57 ?_
      refine tn_isub dX5_parameter_58 ?_
      refine tn_iload_n dX5_parameter_59 rfl 1 rfl ?_
      refine tn_callSN (M := m_X5_parameter) (pc := 60) (ix := 129) (M' := m_X11_put) (As := [.ref xq73, .int (iI ((σ.2.1 38 a) - 1)), .int (iI c)]) (rest := []) dX5_parameter_60 ok_X11_put stt_X11_put nl5_129 np_X11_put rfl (Nat.le_of_ble_eq_true rfl) (Nat.le_of_ble_eq_true rfl) rfl (k_X11_put_17 (d + 1) (T := T) (σ := σ63) (x := xq73) (i := (σ.2.1 38 a) - 1) (y := c) hk75i (by omega) hk75 (by omega) (by omega) w71 ) (fun r78 T80 σ79 gt81 hp => ?_)
      obtain ⟨rfl, rfl, w84, F85, f82⟩ := hp
      clear gt81
      have ar86 : xq73 ∈ RRS gs a ∧ xq73 ≠ adN σ63 5 (adN gs 35 a) := MG.rr f69 w71 ha (by decide) (rc_F F72 (Or.inl (by decide)) (by decide) (rc_F F59 (Or.inl (by decide)) (by decide) (hx74))) (ar_of (wf_37 w71 ha) (rc_F F72 (Or.inl (by decide)) (by decide) (rc_F F59 (Or.inl (by decide)) (by decide) (hx74)))) (by decide) hgf
      have fx87e : σ.2.1 38 a = (uC (fpC (cntN 5 (σ.2.1 87 xq1) (cx).fp) (cx)) (4, (tkS Sx jx).1, 0, (tkS Sx jx).2.2.2.2)).rn := (rc_F F72 (Or.inl (by decide)) (by decide) (rc_F F59 (Or.inl (by decide)) (by decide) (rfl))).symm.trans (f67).1.2.1.1.2.2.1
      have fx87 : RDX σ79 a Sx nx jx (rpC (c) (uC (fpC (cntN 5 (σ.2.1 87 xq1) (cx).fp) (cx)) (4, (tkS Sx jx).1, 0, (tkS Sx jx).2.2.2.2))) (Nx) := RDX.rp f67 w71 ha (rc_F F72 (Or.inl (by decide)) (by decide) (rc_F F59 (Or.inl (by decide)) (by decide) (hx74))) F85 (by rw [f82, if_pos ⟨by omega, by omega⟩, fx87e])
      show Tn _ _ 63 T σ79 [(0, .ref a), (1, .int (iI c))] [] _
      obtain ⟨xq88, hx89, hk90⟩ : ∃ x : Nat, σ.2.1 35 a = (x : Int) ∧ (T x).1 = 31 := wf_35 hw ha
      have hk90o : OB T xq88 1 := ⟨by omega, by rw [hk90]; rfl, by omega⟩
      refine tn_aload_n dX5_parameter_63 rfl 0 rfl ?_
      refine tn_getR (ci := 5) (i := 2) (n := 35) (x := xq88) dX5_parameter_64 rfl lay_5 (by decide) fl5_47 ha rfl rfl (rc_F F85 (Or.inl (by decide)) (by decide) (rc_F F72 (Or.inl (by decide)) (by decide) (rc_F F59 (Or.inl (by decide)) (by decide) (hx89)))) ?_
      refine tn_iload_n dX5_parameter_67 rfl 1 rfl ?_
      refine tn_iconst dX5_parameter_68 ?_
      refine tn_mmin (x := c) (y := 4) dX5_parameter_69 mlm5_117 stM_min iniM cdM_min (by omega) (Nat.le_of_ble_eq_true rfl) ⟨by omega, by omega⟩ ⟨by omega, by omega⟩ (fun z92 g93 => ?_)
      refine tn_putV (ci := 1) (i := 3) (n := 8) (r := false) (v := z92) tyX1 tyX1_ok nmX1 dX5_parameter_72 rfl lay_1 (by decide) fl5_180 rfl (tyX1_ok 3 (by decide)) rfl rfl rfl hk90o rfl rfl ?_
      have mg94 : MG Tg gs T (sA 8 xq88 (z92) σ79) a mx := (MG.f8 (MG.pq f69 ar86 f82) (rc_F F85 (Or.inl (by decide)) (by decide) (rc_F F72 (Or.inl (by decide)) (by decide) (rc_F F59 (Or.inl (by decide)) (by decide) (hx89)))))
      have p895 : ∀ d : Nat, (sA 8 xq88 (z92) σ79).2.1 35 a = (d : Int) → (c ≤ 4 → (sA 8 xq88 (z92) σ79).2.1 8 d = c) := fun d9 hd9 q9 => by
        have z9 : (sA 8 xq88 (z92) σ79).2.1 35 a = (xq88 : Int) := rc_o (by decide) (rc_F F85 (Or.inl (by decide)) (by decide) (rc_F F72 (Or.inl (by decide)) (by decide) (rc_F F59 (Or.inl (by decide)) (by decide) (hx89))))
        have z8 : (sA 8 xq88 (z92) σ79).2.1 8 xq88 = z92 := ra_eq
        have e9 : d9 = xq88 := by omega
        rw [e9]; omega
      exact tn_vret rfl dX5_parameter_75 ⟨rfl, rfl, (w84.put (by decide) (by decide) (fo_8 (by omega))), ((((FrC.rfl.trans (FrC.sub F59 (by decide))).trans (FrC.sub F72 (by decide))).trans (FrC.sub F85 (by decide))).put (by decide) (by decide)), RDX.cq (fx87.pt (by decide) (by decide)) (by rw [uC3c]; unfold ifN; rw [ifP_t (show 4 ≤ c - 1 by omega), ifP_f (fun q => absurd (nf13.mpr q) (by omega)), show (c - 1 + 1 : Int) = c by omega, g50pl]), mg94, p895⟩
  · refine tn_aload_n dX5_parameter_15 rfl 0 rfl ?_
    refine tn_iconst dX5_parameter_16 ?_
    refine tn_aload_n dX5_parameter_17 rfl 0 rfl ?_
    refine tn_getR (ci := 5) (i := 0) (n := 33) (x := xq1) dX5_parameter_18 rfl lay_5 (by decide) fl5_12 ha rfl rfl (hx2) ?_
    refine tn_getI (ci := 9) (i := 6) (n := 87) (t := σ.2.1 87 xq1) dX5_parameter_21 rfl lay_9 (by decide) fl5_74 hk3o rfl rfl (rfl) ?_
    have g96 : ((-2147483648 : Int) ≤ σ.2.1 87 xq1 ∧ σ.2.1 87 xq1 ≤ 2147483647) := wf_87 hw hk3o
    have g96pl : σ.2.1 87 xq1 = (tkS Sx jx).1 := (rfl).symm.trans ((hfx).1.pl (hx2))
    refine tn_callV (M := m_X5_parameter) (pc := 24) (ix := 113) (ci := 5) (M' := m_X5_note) (As := [.int (iI 2), .int (iI (σ.2.1 87 xq1))]) (rest := []) dX5_parameter_24 ok_X5_note im_X5_note se_X5_note ml5_113 np_X5_note rfl rfl ha rfl (Nat.le_of_ble_eq_true rfl) (Nat.le_of_ble_eq_true rfl) rfl (k_X5_note_m (d + 1) (T := T) (σ := σ) (a := a) (f := 2) (p := σ.2.1 87 xq1) ha (by decide) (by omega) hw ) (fun r97 T99 σ98 gt100 hp => ?_)
    obtain ⟨rfl, rfl, w104, F105, f101, f102⟩ := hp
    clear gt100
    have fx106 : RDX σ98 a Sx nx jx (fpC (cntN 2 (σ.2.1 87 xq1) (cx).fp) (cx)) (Nx) := RDX.nt hfx hw ha F105 f101
    show Tn _ _ 27 T σ98 [(0, .ref a), (1, .int (iI c))] [] _
    refine tn_iload_n dX5_parameter_27 rfl 1 rfl ?_
    refine tn_iconst dX5_parameter_28 ?_
    refine tn_icmp_le (tgt := 44) dX5_parameter_29 (by decide) ⟨by omega, by omega⟩ ⟨by decide, by decide⟩ (fun h107 => ?_) (fun h107 => ?_)
    · refine tn_aload_n dX5_parameter_44 rfl 0 rfl ?_
      have mg108 : MG Tg gs T σ98 a mx := (MG.nt hmg f102)
      refine tn_callV (M := m_X5_parameter) (pc := 45) (ix := 176) (ci := 5) (M' := m_X5_register) (As := []) (rest := []) dX5_parameter_45 ok_X5_register im_X5_register se_X5_register ml5_176 np_X5_register rfl rfl ha rfl (Nat.le_of_ble_eq_true rfl) (Nat.le_of_ble_eq_true rfl) rfl (k_X5_register_m (d) (T := T) (σ := σ98) (a := a) (Tg := Tg) (gs := gs) (mx := mx) ha w104 fx106 hkd mg108) (fun r109 T111 σ110 gt112 hp => ?_)
      obtain ⟨v117, rfl, rfl, w118, F119, f113, f114, f115, f116⟩ := hp
      clear gt112
      show Tn _ _ 48 T σ110 [(0, .ref a), (1, .int (iI c))] [.int (iI v117)] _
      refine tn_pop dX5_parameter_48 rfl ?_
      refine tn_aload_n dX5_parameter_49 rfl 0 rfl ?_
      obtain ⟨xq120, hx121, hk122, hl123⟩ : ∃ x : Nat, σ.2.1 37 a = (x : Int) ∧ AR T x 17 256 256 := wf_37 hw ha
      have hk122i : IA T xq120 := by unfold IA; omega
      refine tn_getR (ci := 5) (i := 4) (n := 37) (x := xq120) dX5_parameter_50 rfl lay_5 (by decide) fl5_28 ha rfl rfl (rc_F F119 (Or.inl (by decide)) (by decide) (rc_F F105 (Or.inl (by decide)) (by decide) (hx121))) ?_
      refine tn_aload_n dX5_parameter_53 rfl 0 rfl ?_
      refine tn_getI (ci := 5) (i := 5) (n := 38) (t := σ.2.1 38 a) dX5_parameter_54 rfl lay_5 (by decide) fl5_58 ha rfl rfl (rc_F F119 (Or.inl (by decide)) (by decide) (rc_F F105 (Or.inl (by decide)) (by decide) (rfl))) ?_
      have g124 : ((0 : Int) ≤ σ.2.1 38 a ∧ σ.2.1 38 a ≤ 256) := wf_38 hw ha
      refine tn_iconst dX5_parameter_57 ?_
      refine tn_isub dX5_parameter_58 ?_
      refine tn_iload_n dX5_parameter_59 rfl 1 rfl ?_
      refine tn_callSN (M := m_X5_parameter) (pc := 60) (ix := 129) (M' := m_X11_put) (As := [.ref xq120, .int (iI ((σ.2.1 38 a) - 1)), .int (iI c)]) (rest := []) dX5_parameter_60 ok_X11_put stt_X11_put nl5_129 np_X11_put rfl (Nat.le_of_ble_eq_true rfl) (Nat.le_of_ble_eq_true rfl) rfl (k_X11_put_17 (d + 1) (T := T) (σ := σ110) (x := xq120) (i := (σ.2.1 38 a) - 1) (y := c) hk122i (by omega) hk122 (by omega) (by omega) w118 ) (fun r125 T127 σ126 gt128 hp => ?_)
      obtain ⟨rfl, rfl, w131, F132, f129⟩ := hp
      clear gt128
      have ar133 : xq120 ∈ RRS gs a ∧ xq120 ≠ adN σ110 5 (adN gs 35 a) := MG.rr f116 w118 ha (by decide) (rc_F F119 (Or.inl (by decide)) (by decide) (rc_F F105 (Or.inl (by decide)) (by decide) (hx121))) (ar_of (wf_37 w118 ha) (rc_F F119 (Or.inl (by decide)) (by decide) (rc_F F105 (Or.inl (by decide)) (by decide) (hx121)))) (by decide) hgf
      have fx134e : σ.2.1 38 a = (uC (fpC (cntN 2 (σ.2.1 87 xq1) (cx).fp) (cx)) (4, (tkS Sx jx).1, 0, (tkS Sx jx).2.2.2.2)).rn := (rc_F F119 (Or.inl (by decide)) (by decide) (rc_F F105 (Or.inl (by decide)) (by decide) (rfl))).symm.trans (f114).1.2.1.1.2.2.1
      have fx134 : RDX σ126 a Sx nx jx (rpC (c) (uC (fpC (cntN 2 (σ.2.1 87 xq1) (cx).fp) (cx)) (4, (tkS Sx jx).1, 0, (tkS Sx jx).2.2.2.2))) (Nx) := RDX.rp f114 w118 ha (rc_F F119 (Or.inl (by decide)) (by decide) (rc_F F105 (Or.inl (by decide)) (by decide) (hx121))) F132 (by rw [f129, if_pos ⟨by omega, by omega⟩, fx134e])
      show Tn _ _ 63 T σ126 [(0, .ref a), (1, .int (iI c))] [] _
      obtain ⟨xq135, hx136, hk137⟩ : ∃ x : Nat, σ.2.1 35 a = (x : Int) ∧ (T x).1 = 31 := wf_35 hw ha
      have hk137o : OB T xq135 1 := ⟨by omega, by rw [hk137]; rfl, by omega⟩
      refine tn_aload_n dX5_parameter_63 rfl 0 rfl ?_
      refine tn_getR (ci := 5) (i := 2) (n := 35) (x := xq135) dX5_parameter_64 rfl lay_5 (by decide) fl5_47 ha rfl rfl (rc_F F132 (Or.inl (by decide)) (by decide) (rc_F F119 (Or.inl (by decide)) (by decide) (rc_F F105 (Or.inl (by decide)) (by decide) (hx136)))) ?_
      refine tn_iload_n dX5_parameter_67 rfl 1 rfl ?_
      refine tn_iconst dX5_parameter_68 ?_
      refine tn_mmin (x := c) (y := 4) dX5_parameter_69 mlm5_117 stM_min iniM cdM_min (by omega) (Nat.le_of_ble_eq_true rfl) ⟨by omega, by omega⟩ ⟨by omega, by omega⟩ (fun z139 g140 => ?_)
      refine tn_putV (ci := 1) (i := 3) (n := 8) (r := false) (v := z139) tyX1 tyX1_ok nmX1 dX5_parameter_72 rfl lay_1 (by decide) fl5_180 rfl (tyX1_ok 3 (by decide)) rfl rfl rfl hk137o rfl rfl ?_
      have mg141 : MG Tg gs T (sA 8 xq135 (z139) σ126) a mx := (MG.f8 (MG.pq f116 ar133 f129) (rc_F F132 (Or.inl (by decide)) (by decide) (rc_F F119 (Or.inl (by decide)) (by decide) (rc_F F105 (Or.inl (by decide)) (by decide) (hx136)))))
      have p8142 : ∀ d : Nat, (sA 8 xq135 (z139) σ126).2.1 35 a = (d : Int) → (c ≤ 4 → (sA 8 xq135 (z139) σ126).2.1 8 d = c) := fun d9 hd9 q9 => by
        have z9 : (sA 8 xq135 (z139) σ126).2.1 35 a = (xq135 : Int) := rc_o (by decide) (rc_F F132 (Or.inl (by decide)) (by decide) (rc_F F119 (Or.inl (by decide)) (by decide) (rc_F F105 (Or.inl (by decide)) (by decide) (hx136))))
        have z8 : (sA 8 xq135 (z139) σ126).2.1 8 xq135 = z139 := ra_eq
        have e9 : d9 = xq135 := by omega
        rw [e9]; omega
      exact tn_vret rfl dX5_parameter_75 ⟨rfl, rfl, (w131.put (by decide) (by decide) (fo_8 (by omega))), ((((FrC.rfl.trans (FrC.sub F105 (by decide))).trans (FrC.sub F119 (by decide))).trans (FrC.sub F132 (by decide))).put (by decide) (by decide)), RDX.cq (fx134.pt (by decide) (by decide)) (by rw [uC3c]; unfold ifN; rw [ifP_f (show ¬ 4 ≤ c - 1 by omega), ifP_t (nf13.mp (by omega)), show (c - 1 + 1 : Int) = c by omega, g96pl]), mg141, p8142⟩
    · refine tn_aload_n dX5_parameter_32 rfl 0 rfl ?_
      refine tn_iconst dX5_parameter_33 ?_
      refine tn_aload_n dX5_parameter_34 rfl 0 rfl ?_
      refine tn_getR (ci := 5) (i := 0) (n := 33) (x := xq1) dX5_parameter_35 rfl lay_5 (by decide) fl5_12 ha rfl rfl (rc_F F105 (Or.inl (by decide)) (by decide) (hx2)) ?_
      refine tn_getI (ci := 9) (i := 6) (n := 87) (t := σ.2.1 87 xq1) dX5_parameter_38 rfl lay_9 (by decide) fl5_74 hk3o rfl rfl (rc_F F105 (Or.inl (by decide)) (by decide) (rfl)) ?_
      refine tn_callV (M := m_X5_parameter) (pc := 41) (ix := 113) (ci := 5) (M' := m_X5_note) (As := [.int (iI 5), .int (iI (σ.2.1 87 xq1))]) (rest := []) dX5_parameter_41 ok_X5_note im_X5_note se_X5_note ml5_113 np_X5_note rfl rfl ha rfl (Nat.le_of_ble_eq_true rfl) (Nat.le_of_ble_eq_true rfl) rfl (k_X5_note_m (d + 1) (T := T) (σ := σ98) (a := a) (f := 5) (p := σ.2.1 87 xq1) ha (by decide) (by omega) w104 ) (fun r143 T145 σ144 gt146 hp => ?_)
      obtain ⟨rfl, rfl, w150, F151, f147, f148⟩ := hp
      clear gt146
      have mg152 : MG Tg gs T σ98 a mx := (MG.nt hmg f102)
      have fx153 : RDX σ144 a Sx nx jx (fpC (cntN 5 (σ.2.1 87 xq1) (fpC (cntN 2 (σ.2.1 87 xq1) (cx).fp) (cx)).fp) (fpC (cntN 2 (σ.2.1 87 xq1) (cx).fp) (cx))) (Nx) := RDX.nt fx106 w104 ha F151 f147
      show Tn _ _ 44 T σ144 [(0, .ref a), (1, .int (iI c))] [] _
      refine tn_aload_n dX5_parameter_44 rfl 0 rfl ?_
      have mg154 : MG Tg gs T σ144 a mx := (MG.nt mg152 f148)
      refine tn_callV (M := m_X5_parameter) (pc := 45) (ix := 176) (ci := 5) (M' := m_X5_register) (As := []) (rest := []) dX5_parameter_45 ok_X5_register im_X5_register se_X5_register ml5_176 np_X5_register rfl rfl ha rfl (Nat.le_of_ble_eq_true rfl) (Nat.le_of_ble_eq_true rfl) rfl (k_X5_register_m (d) (T := T) (σ := σ144) (a := a) (Tg := Tg) (gs := gs) (mx := mx) ha w150 fx153 hkd mg154) (fun r155 T157 σ156 gt158 hp => ?_)
      obtain ⟨v163, rfl, rfl, w164, F165, f159, f160, f161, f162⟩ := hp
      clear gt158
      show Tn _ _ 48 T σ156 [(0, .ref a), (1, .int (iI c))] [.int (iI v163)] _
      refine tn_pop dX5_parameter_48 rfl ?_
      refine tn_aload_n dX5_parameter_49 rfl 0 rfl ?_
      obtain ⟨xq166, hx167, hk168, hl169⟩ : ∃ x : Nat, σ.2.1 37 a = (x : Int) ∧ AR T x 17 256 256 := wf_37 hw ha
      have hk168i : IA T xq166 := by unfold IA; omega
      refine tn_getR (ci := 5) (i := 4) (n := 37) (x := xq166) dX5_parameter_50 rfl lay_5 (by decide) fl5_28 ha rfl rfl (rc_F F165 (Or.inl (by decide)) (by decide) (rc_F F151 (Or.inl (by decide)) (by decide) (rc_F F105 (Or.inl (by decide)) (by decide) (hx167)))) ?_
      refine tn_aload_n dX5_parameter_53 rfl 0 rfl ?_
      refine tn_getI (ci := 5) (i := 5) (n := 38) (t := σ.2.1 38 a) dX5_parameter_54 rfl lay_5 (by decide) fl5_58 ha rfl rfl (rc_F F165 (Or.inl (by decide)) (by decide) (rc_F F151 (Or.inl (by decide)) (by decide) (rc_F F105 (Or.inl (by decide)) (by decide) (rfl)))) ?_
      have g170 : ((0 : Int) ≤ σ.2.1 38 a ∧ σ.2.1 38 a ≤ 256) := wf_38 hw ha
      refine tn_iconst dX5_parameter_57 ?_
      refine tn_isub dX5_parameter_58 ?_
      refine tn_iload_n dX5_parameter_59 rfl 1 rfl ?_
      refine tn_callSN (M := m_X5_parameter) (pc := 60) (ix := 129) (M' := m_X11_put) (As := [.ref xq166, .int (iI ((σ.2.1 38 a) - 1)), .int (iI c)]) (rest := []) dX5_parameter_60 ok_X11_put stt_X11_put nl5_129 np_X11_put rfl (Nat.le_of_ble_eq_true rfl) (Nat.le_of_ble_eq_true rfl) rfl (k_X11_put_17 (d + 1) (T := T) (σ := σ156) (x := xq166) (i := (σ.2.1 38 a) - 1) (y := c) hk168i (by omega) hk168 (by omega) (by omega) w164 ) (fun r171 T173 σ172 gt174 hp => ?_)
      obtain ⟨rfl, rfl, w177, F178, f175⟩ := hp
      clear gt174
      have ar179 : xq166 ∈ RRS gs a ∧ xq166 ≠ adN σ156 5 (adN gs 35 a) := MG.rr f162 w164 ha (by decide) (rc_F F165 (Or.inl (by decide)) (by decide) (rc_F F151 (Or.inl (by decide)) (by decide) (rc_F F105 (Or.inl (by decide)) (by decide) (hx167)))) (ar_of (wf_37 w164 ha) (rc_F F165 (Or.inl (by decide)) (by decide) (rc_F F151 (Or.inl (by decide)) (by decide) (rc_F F105 (Or.inl (by decide)) (by decide) (hx167))))) (by decide) hgf
      have fx180e : σ.2.1 38 a = (uC (fpC (cntN 5 (σ.2.1 87 xq1) (fpC (cntN 2 (σ.2.1 87 xq1) (cx).fp) (cx)).fp) (fpC (cntN 2 (σ.2.1 87 xq1) (cx).fp) (cx))) (4, (tkS Sx jx).1, 0, (tkS Sx jx).2.2.2.2)).rn := (rc_F F165 (Or.inl (by decide)) (by decide) (rc_F F151 (Or.inl (by decide)) (by decide) (rc_F F105 (Or.inl (by decide)) (by decide) (rfl)))).symm.trans (f160).1.2.1.1.2.2.1
      have fx180 : RDX σ172 a Sx nx jx (rpC (c) (uC (fpC (cntN 5 (σ.2.1 87 xq1) (fpC (cntN 2 (σ.2.1 87 xq1) (cx).fp) (cx)).fp) (fpC (cntN 2 (σ.2.1 87 xq1) (cx).fp) (cx))) (4, (tkS Sx jx).1, 0, (tkS Sx jx).2.2.2.2))) (Nx) := RDX.rp f160 w164 ha (rc_F F165 (Or.inl (by decide)) (by decide) (rc_F F151 (Or.inl (by decide)) (by decide) (rc_F F105 (Or.inl (by decide)) (by decide) (hx167)))) F178 (by rw [f175, if_pos ⟨by omega, by omega⟩, fx180e])
      show Tn _ _ 63 T σ172 [(0, .ref a), (1, .int (iI c))] [] _
      obtain ⟨xq181, hx182, hk183⟩ : ∃ x : Nat, σ.2.1 35 a = (x : Int) ∧ (T x).1 = 31 := wf_35 hw ha
      have hk183o : OB T xq181 1 := ⟨by omega, by rw [hk183]; rfl, by omega⟩
      refine tn_aload_n dX5_parameter_63 rfl 0 rfl ?_
      refine tn_getR (ci := 5) (i := 2) (n := 35) (x := xq181) dX5_parameter_64 rfl lay_5 (by decide) fl5_47 ha rfl rfl (rc_F F178 (Or.inl (by decide)) (by decide) (rc_F F165 (Or.inl (by decide)) (by decide) (rc_F F151 (Or.inl (by decide)) (by decide) (rc_F F105 (Or.inl (by decide)) (by decide) (hx182))))) ?_
      refine tn_iload_n dX5_parameter_67 rfl 1 rfl ?_
      refine tn_iconst dX5_parameter_68 ?_
      refine tn_mmin (x := c) (y := 4) dX5_parameter_69 mlm5_117 stM_min iniM cdM_min (by omega) (Nat.le_of_ble_eq_true rfl) ⟨by omega, by omega⟩ ⟨by omega, by omega⟩ (fun z185 g186 => ?_)
      refine tn_putV (ci := 1) (i := 3) (n := 8) (r := false) (v := z185) tyX1 tyX1_ok nmX1 dX5_parameter_72 rfl lay_1 (by decide) fl5_180 rfl (tyX1_ok 3 (by decide)) rfl rfl rfl hk183o rfl rfl ?_
      have mg187 : MG Tg gs T (sA 8 xq181 (z185) σ172) a mx := (MG.f8 (MG.pq f162 ar179 f175) (rc_F F178 (Or.inl (by decide)) (by decide) (rc_F F165 (Or.inl (by decide)) (by decide) (rc_F F151 (Or.inl (by decide)) (by decide) (rc_F F105 (Or.inl (by decide)) (by decide) (hx182))))))
      have p8188 : ∀ d : Nat, (sA 8 xq181 (z185) σ172).2.1 35 a = (d : Int) → (c ≤ 4 → (sA 8 xq181 (z185) σ172).2.1 8 d = c) := fun d9 hd9 q9 => by
        have z9 : (sA 8 xq181 (z185) σ172).2.1 35 a = (xq181 : Int) := rc_o (by decide) (rc_F F178 (Or.inl (by decide)) (by decide) (rc_F F165 (Or.inl (by decide)) (by decide) (rc_F F151 (Or.inl (by decide)) (by decide) (rc_F F105 (Or.inl (by decide)) (by decide) (hx182)))))
        have z8 : (sA 8 xq181 (z185) σ172).2.1 8 xq181 = z185 := ra_eq
        have e9 : d9 = xq181 := by omega
        rw [e9]; omega
      exact tn_vret rfl dX5_parameter_75 ⟨rfl, rfl, (w177.put (by decide) (by decide) (fo_8 (by omega))), (((((FrC.rfl.trans (FrC.sub F105 (by decide))).trans (FrC.sub F151 (by decide))).trans (FrC.sub F165 (by decide))).trans (FrC.sub F178 (by decide))).put (by decide) (by decide)), RDX.cq (fx180.pt (by decide) (by decide)) (by rw [uC3c]; unfold ifN; rw [ifP_t (show 4 ≤ c - 1 by omega), ifP_t (nf13.mp (by omega)), show (c - 1 + 1 : Int) = c by omega, g96pl]), mg187, p8188⟩
end
section
set_option maxHeartbeats 1000000 in
set_option maxRecDepth 20000 in
theorem l_X5_parameters_m_16 (d : Nat) {T : CT} {σ0 : MS} {a : Nat} {Sx : Int → Int} {nx : Nat} {jx : Nat} {cx : CS} {Nx : Int} {Tg : CT} {gs : MS} {mx : MK} {rp : Int} {kp : Int} {post : Option Value → CT → MS → Prop} (h_a : OB T a 5) (hw0 : WT T σ0) (hj : 1 ≤ (jx : Int)) (hrn : 1 ≤ cx.rn ∧ cx.rn ≤ 256) (hgf : gs.1 5 = 0) (hkp : kp ≤ 150) (hx_36 : ∀ (i1 : Int) (σ : MS) , (WT T σ) → (FrC T [7, 8, 43, 44, 84, 85, 86, 87, 517, 521] σ0 σ) → (0 ≤ i1 ∧ i1 ≤ 2147483647) → (True) → (RP σ a kp) → (PLX σ a Sx nx jx cx Nx rp) → (FG Tg gs T σ a) → Tn (d + 4) m_X5_parameters 36 T σ [(0, .ref a), (1, .int (iI i1))] [] post) (hx_67 : ∀ (i1 : Int) (σ : MS) , (WT T σ) → (FrC T [7, 8, 43, 44, 84, 85, 86, 87, 517, 521] σ0 σ) → (0 ≤ i1 ∧ i1 ≤ 2147483647) → (True) → (RP σ a kp) → (PSM σ a Sx nx jx cx Nx rp Tg gs T mx) → Tn (d + 4) m_X5_parameters 67 T σ [(0, .ref a), (1, .int (iI i1))] [] post) (hx_82 : ∀ (i1 : Int) (σ : MS) , (WT T σ) → (FrC T [7, 8, 43, 44, 84, 85, 86, 87, 517, 521] σ0 σ) → (0 ≤ i1 ∧ i1 ≤ 2147483647) → (True) → (RP σ a kp) → ((1 : Int) ≤ 0) → Tn (d + 4) m_X5_parameters 82 T σ [(0, .ref a), (1, .int (iI i1))] [] post) : ∀ (n : Nat) (i1 : Int) (σ : MS) , (WT T σ) → (FrC T [7, 8, 43, 44, 84, 85, 86, 87, 517, 521] σ0 σ) → (0 ≤ i1 ∧ i1 ≤ 2147483647) → (PLM σ a Sx nx jx cx Nx rp (i1) Tg gs T mx) → (RP σ a kp) → (2147483700 - i1).toNat = n → Tn (d + 4) m_X5_parameters 16 T σ [(0, .ref a), (1, .int (iI i1))] [] post := by
  intro n
  induction n using Nat.strongRecOn with
  | _ n ih =>
    intro i1 σ hw hF r_i1 hx hrp hm
    obtain ⟨jy, ey, loy, pry, hfy, hry, niy, mgy, pmy⟩ := hx
    have hSb := hfy.1.sb
    have hjn := RDX.jn hfy hw h_a
    refine tn_iload_n dX5_parameters_16 rfl 1 rfl ?_
    refine tn_sipush dX5_parameters_17 (by decide) ?_
    refine tn_icmp_ge (tgt := 82) dX5_parameters_20 (by decide) ⟨by omega, by omega⟩ ⟨by decide, by decide⟩ (fun h1 => ?_) (fun h1 => ?_)
    · exact tn_sub [0, 1] rfl (hx_82 (i1) σ hw (FrC.rfl.trans (FrC.sub hF (by decide))) (by omega) True.intro (RP.up hrp (by omega)) (by omega))
    · refine tn_aload_n dX5_parameters_23 rfl 0 rfl ?_
      obtain ⟨xq2, hx3, hk4⟩ : ∃ x : Nat, σ0.2.1 33 a = (x : Int) ∧ (T x).1 = 39 := wf_33 hw0 h_a
      have hk4o : OB T xq2 9 := ⟨by omega, by rw [hk4]; rfl, by omega⟩
      refine tn_getR (ci := 5) (i := 0) (n := 33) (x := xq2) dX5_parameters_24 rfl lay_5 (by decide) fl5_12 h_a rfl rfl (rc_F hF (Or.inl (by decide)) (by decide) (hx3)) ?_
      refine tn_getI (ci := 9) (i := 4) (n := 85) (t := σ.2.1 85 xq2) dX5_parameters_27 rfl lay_9 (by decide) fl5_71 hk4o rfl rfl (rfl) ?_
      have g6 : ((-2147483648 : Int) ≤ σ.2.1 85 xq2 ∧ σ.2.1 85 xq2 ≤ 2147483647) := wf_85 hw hk4o
      have g6kd : σ.2.1 85 xq2 = ckd (tkS Sx jy) := (rfl).symm.trans ((hfy).1.kd (rc_F hF (Or.inl (by decide)) (by decide) (hx3)))
      refine tn_sipush dX5_parameters_30 (by decide) ?_
      refine tn_icmp_eq (tgt := 41) dX5_parameters_33 (by decide) ⟨by omega, by omega⟩ ⟨by decide, by decide⟩ (fun h7 => ?_) (fun h7 => ?_)
      · refine tn_aload_n dX5_parameters_41 rfl 0 rfl ?_
        refine tn_iload_n dX5_parameters_42 rfl 1 rfl ?_
        refine tn_iconst dX5_parameters_43 ?_
        refine tn_iadd dX5_parameters_44 ?_
        refine tn_callV (M := m_X5_parameters) (pc := 45) (ix := 170) (ci := 5) (M' := m_X5_parameter) (As := [.int (iI (i1 + 1))]) (rest := []) dX5_parameters_45 ok_X5_parameter im_X5_parameter se_X5_parameter ml5_170 np_X5_parameter rfl rfl h_a rfl (Nat.le_of_ble_eq_true rfl) (Nat.le_of_ble_eq_true rfl) rfl (k_X5_parameter_m (d) (T := T) (σ := σ) (a := a) (c := i1 + 1) (Tg := Tg) (gs := gs) (mx := mx) h_a (by omega) hw (by omega) hfy (by omega) (by rw [hry]; exact hrn) mgy hgf) (fun r8 T10 σ9 gt11 hp => ?_)
        obtain ⟨rfl, rfl, w16, F17, f12, f13, f14⟩ := hp
        clear gt11
        have rp18 : RP σ9 a (kp) := RP.frc hrp F17 (by decide) (by decide) (by decide) (by decide) (by decide)
        have fx19 : RDX σ9 a Sx nx jy ((ey ++ [(3, (tkS Sx jy).1, i1, (tkS Sx jy).2.2.2.2)]).foldl uC cx) Nx := RDX.cq f12 (by rw [show ((i1 + 1) - 1 : Int) = i1 by omega, fc_one])
        have fx19p := PR.one hSb pry (by omega)
        have fx19pm := PRM.one hSb pmy (by omega)
        have fx19pn : NI2 (ey ++ [(3, (tkS Sx jy).1, i1, (tkS Sx jy).2.2.2.2)]) := NI2.app niy (NI2.one (show (3 : Int) ≠ 2 by decide))
        show Tn _ _ 48 T σ9 [(0, .ref a), (1, .int (iI i1))] [] _
        refine tn_aload_n dX5_parameters_48 rfl 0 rfl ?_
        refine tn_getR (ci := 5) (i := 0) (n := 33) (x := xq2) dX5_parameters_49 rfl lay_5 (by decide) fl5_12 h_a rfl rfl (rc_F F17 (Or.inl (by decide)) (by decide) (rc_F hF (Or.inl (by decide)) (by decide) (hx3))) ?_
        have q24 : σ9.2.1 84 xq2 = σ.2.1 84 xq2 := rc_F F17 (Or.inl (by decide)) (by decide) (rfl)
        refine tn_callV (M := m_X5_parameters) (pc := 52) (ix := 93) (ci := 9) (M' := m_X9_next) (As := []) (rest := []) dX5_parameters_52 ok_X9_next im_X9_next se_X9_next ml5_93 np_X9_next rfl rfl hk4o rfl (Nat.le_of_ble_eq_true rfl) (Nat.le_of_ble_eq_true rfl) rfl (k_X9_next_m (d + 2) (T := T) (σ := σ9) (a := xq2) hk4o w16 (RP.tk rp18 w16 h_a (rc_F F17 (Or.inl (by decide)) (by decide) (rc_F hF (Or.inl (by decide)) (by decide) (hx3)))) ((fx19).1.tk (rc_F F17 (Or.inl (by decide)) (by decide) (rc_F hF (Or.inl (by decide)) (by decide) (hx3)))) (by rw [(fx19).1.kd (rc_F F17 (Or.inl (by decide)) (by decide) (rc_F hF (Or.inl (by decide)) (by decide) (hx3)))]; omega)) (fun r20 T22 σ21 gt23 hp => ?_)
        obtain ⟨rfl, rfl, w31, F32, f25, f26, f27, f28, f29⟩ := hp
        clear gt23
        have fx33 : RDX σ21 a Sx nx (jy + 1) ((ey ++ [(3, (tkS Sx jy).1, i1, (tkS Sx jy).2.2.2.2)]).foldl uC cx) (Nx) := RDX.nx fx19 w16 h_a (rc_F F17 (Or.inl (by decide)) (by decide) (rc_F hF (Or.inl (by decide)) (by decide) (hx3))) F32 f28
        have rp34 : RP σ21 a (kp - 4) := RP.next4 rp18 (rc_F F17 (Or.inl (by decide)) (by decide) (rc_F hF (Or.inl (by decide)) (by decide) (hx3))) F32 (by decide) (by decide) (by decide) f25 f27 (by rw [show σ9.2.1 85 xq2 = σ.2.1 85 xq2 from rc_F F17 (Or.inl (by decide)) (by decide) (rfl)]; omega)
        show Tn _ _ 55 T σ21 [(0, .ref a), (1, .int (iI i1))] [] _
        refine tn_aload_n dX5_parameters_55 rfl 0 rfl ?_
        refine tn_getR (ci := 5) (i := 0) (n := 33) (x := xq2) dX5_parameters_56 rfl lay_5 (by decide) fl5_12 h_a rfl rfl (rc_F F32 (Or.inl (by decide)) (by decide) (rc_F F17 (Or.inl (by decide)) (by decide) (rc_F hF (Or.inl (by decide)) (by decide) (hx3)))) ?_
        refine tn_getI (ci := 9) (i := 4) (n := 85) (t := σ21.2.1 85 xq2) dX5_parameters_59 rfl lay_9 (by decide) fl5_71 hk4o rfl rfl (rfl) ?_
        have g35 : ((-2147483648 : Int) ≤ σ21.2.1 85 xq2 ∧ σ21.2.1 85 xq2 ≤ 2147483647) := wf_85 w31 hk4o
        have g35kd : σ21.2.1 85 xq2 = ckd (tkS Sx (jy + 1)) := (rfl).symm.trans ((fx33).1.kd (rc_F F32 (Or.inl (by decide)) (by decide) (rc_F F17 (Or.inl (by decide)) (by decide) (rc_F hF (Or.inl (by decide)) (by decide) (hx3)))))
        refine tn_bipush dX5_parameters_62 (by decide) ?_
        refine tn_icmp_eq (tgt := 69) dX5_parameters_64 (by decide) ⟨by omega, by omega⟩ ⟨by decide, by decide⟩ (fun h36 => ?_) (fun h36 => ?_)
        · refine tn_aload_n dX5_parameters_69 rfl 0 rfl ?_
          refine tn_getR (ci := 5) (i := 0) (n := 33) (x := xq2) dX5_parameters_70 rfl lay_5 (by decide) fl5_12 h_a rfl rfl (rc_F F32 (Or.inl (by decide)) (by decide) (rc_F F17 (Or.inl (by decide)) (by decide) (rc_F hF (Or.inl (by decide)) (by decide) (hx3)))) ?_
          refine tn_callV (M := m_X5_parameters) (pc := 73) (ix := 93) (ci := 9) (M' := m_X9_next) (As := []) (rest := []) dX5_parameters_73 ok_X9_next im_X9_next se_X9_next ml5_93 np_X9_next rfl rfl hk4o rfl (Nat.le_of_ble_eq_true rfl) (Nat.le_of_ble_eq_true rfl) rfl (k_X9_next_m (d + 2) (T := T) (σ := σ21) (a := xq2) hk4o w31 (RP.tk rp34 w31 h_a (rc_F F32 (Or.inl (by decide)) (by decide) (rc_F F17 (Or.inl (by decide)) (by decide) (rc_F hF (Or.inl (by decide)) (by decide) (hx3))))) ((fx33).1.tk (rc_F F32 (Or.inl (by decide)) (by decide) (rc_F F17 (Or.inl (by decide)) (by decide) (rc_F hF (Or.inl (by decide)) (by decide) (hx3))))) (by rw [(fx33).1.kd (rc_F F32 (Or.inl (by decide)) (by decide) (rc_F F17 (Or.inl (by decide)) (by decide) (rc_F hF (Or.inl (by decide)) (by decide) (hx3))))]; omega)) (fun r37 T39 σ38 gt40 hp => ?_)
          obtain ⟨rfl, rfl, w47, F48, f41, f42, f43, f44, f45⟩ := hp
          clear gt40
          have mg49 : MG Tg gs T σ21 a mx := (MG.tk f13 (rc_F F17 (Or.inl (by decide)) (by decide) (rc_F hF (Or.inl (by decide)) (by decide) (hx3))) f29)
          have fx50 : RDX σ38 a Sx nx ((jy + 1) + 1) ((ey ++ [(3, (tkS Sx jy).1, i1, (tkS Sx jy).2.2.2.2)]).foldl uC cx) (Nx) := RDX.nx fx33 w31 h_a (rc_F F32 (Or.inl (by decide)) (by decide) (rc_F F17 (Or.inl (by decide)) (by decide) (rc_F hF (Or.inl (by decide)) (by decide) (hx3)))) F48 f44
          have rp51 : RP σ38 a (kp - 4 - 4) := RP.next4 rp34 (rc_F F32 (Or.inl (by decide)) (by decide) (rc_F F17 (Or.inl (by decide)) (by decide) (rc_F hF (Or.inl (by decide)) (by decide) (hx3)))) F48 (by decide) (by decide) (by decide) f41 f43 (by rw [show σ21.2.1 85 xq2 = σ21.2.1 85 xq2 from rfl]; omega)
          have rp52 : RP σ38 a (kp - 8) := RP.up rp51 (by omega)
          show Tn _ _ 76 T σ38 [(0, .ref a), (1, .int (iI i1))] [] _
          refine tn_iinc (q0 := 1) (L' := [(1, .int (iI (i1 + 1))), (0, .ref a)]) dX5_parameters_76 rfl (by decide) rfl ?_
          refine tn_goto (tgt := 16) dX5_parameters_79 (by decide) ?_
          have mg54 : MG Tg gs T σ38 a mx := (MG.tk mg49 (rc_F F32 (Or.inl (by decide)) (by decide) (rc_F F17 (Or.inl (by decide)) (by decide) (rc_F hF (Or.inl (by decide)) (by decide) (hx3)))) f45)
          have hx53 : PLM σ38 a Sx nx jx cx Nx rp (i1 + 1) Tg gs T mx := ⟨((jy + 1) + 1), ey ++ [(3, (tkS Sx jy).1, i1, (tkS Sx jy).2.2.2.2)], by omega, PR.comma hSb fx19p (by omega), fx50, by rw [← fc_one, uC3_rn]; exact hry, fx19pn, mg54, PRM.comma hSb fx19pm (by omega)⟩
          exact tn_sub [1, 0] rfl (ih _ (by omega) (i1 + 1) σ38 w47 ((((FrC.rfl.trans (FrC.sub hF (by decide))).trans (FrC.sub F17 (by decide))).trans (FrC.sub F32 (by decide))).trans (FrC.sub F48 (by decide))) (by omega) hx53 (RP.up rp52 (by omega)) rfl)
        · have mg56 : MG Tg gs T σ21 a mx := (MG.tk f13 (rc_F F17 (Or.inl (by decide)) (by decide) (rc_F hF (Or.inl (by decide)) (by decide) (hx3))) f29)
          have hx55 : PSM σ21 a Sx nx jx cx Nx rp Tg gs T mx := ⟨(jy + 1), (ey ++ [(3, (tkS Sx jy).1, i1, (tkS Sx jy).2.2.2.2)]) ++ [(7, 0, i1 + 1, 0)], i1 + 1, by omega, PR.done hSb fx19p (by omega), RDX.cq fx33 f7.symm, by rw [f7, ← fc_one, uC3_rn]; exact hry, NI2.app fx19pn (NI2.one (show (7 : Int) ≠ 2 by decide)), mg56, PRM.done hSb fx19pm (by omega), (fun d9 hd9 q9 => by have z9 := f14 d9 (by first | exact hd9 | (have y9 := congrFun (F32.1 35 (Or.inl (by decide)) (by decide)) (a : Int); exact y9.symm.trans hd9)) (by omega); first | exact z9 | (have y9 := congrFun (F32.1 8 (Or.inl (by decide)) (by decide)) (d9 : Int); exact y9.trans z9)), by rw [f7, ← fc_one, ← hry]; exact uC3_rp⟩
          exact tn_sub [0, 1] rfl (hx_67 (i1) σ21 w31 (((FrC.rfl.trans (FrC.sub hF (by decide))).trans (FrC.sub F17 (by decide))).trans (FrC.sub F32 (by decide))) (by omega) True.intro (RP.up rp34 (by omega)) hx55)
      · exact tn_sub [0, 1] rfl (hx_36 (i1) σ hw (FrC.rfl.trans (FrC.sub hF (by decide))) (by omega) True.intro (RP.up hrp (by omega)) ⟨jy, ey, i1, pry, hfy, by omega⟩ (mgy).1)
set_option maxHeartbeats 1000000 in
set_option maxRecDepth 20000 in
theorem k_X5_parameters_m (d : Nat) {T : CT} {σ : MS} {a : Nat} {kp : Int} {Sx : Int → Int} {nx jx : Nat} {cx : CS} {Nx : Int} {Tg : CT} {gs : MS} {mx : MK} {rp : Int} (ha : OB T a 5) (hw : WT T σ) (hfx : RDX σ a Sx nx jx cx Nx) (hrn : 1 ≤ cx.rn ∧ cx.rn ≤ 256) (hj : 1 ≤ (jx : Int)) (hmg : MG Tg gs T σ a mx) (hgf : gs.1 5 = 0) (h80 : ∀ d : Nat, σ.2.1 35 a = (d : Int) → σ.2.1 8 d = 0) (hr8 : cx.rp (cx.rn - 1) = 0) (hkp : kp ≤ 150) (hrp : RP σ a kp) : Tn (d + 4) m_X5_parameters 0 T σ [(0, .ref a)] [] (fun ro T2 σ2 => ∃ v : Int, ro = some (.int (iI v)) ∧ T = T2 ∧ WT T2 σ2 ∧ FrC T [7, 8, 43, 44, 84, 85, 86, 87, 517, 521] σ σ2 ∧ (v = 0 ∨ v = 1) ∧ (PQM σ2 a Sx nx jx cx Nx rp v Tg gs T mx) ∧ (RP σ2 a (kp))) := by
  have hSb := hfx.1.sb
  have hjn := RDX.jn hfx hw ha
  refine tn_aload_n dX5_parameters_0 rfl 0 rfl ?_
  obtain ⟨xq1, hx2, hk3⟩ : ∃ x : Nat, σ.2.1 33 a = (x : Int) ∧ (T x).1 = 39 := wf_33 hw ha
  have hk3o : OB T xq1 9 := ⟨by omega, by rw [hk3]; rfl, by omega⟩
  refine tn_getR (ci := 5) (i := 0) (n := 33) (x := xq1) dX5_parameters_1 rfl lay_5 (by decide) fl5_12 ha rfl rfl (hx2) ?_
  refine tn_getI (ci := 9) (i := 4) (n := 85) (t := σ.2.1 85 xq1) dX5_parameters_4 rfl lay_9 (by decide) fl5_71 hk3o rfl rfl (rfl) ?_
  have g5 : ((-2147483648 : Int) ≤ σ.2.1 85 xq1 ∧ σ.2.1 85 xq1 ≤ 2147483647) := wf_85 hw hk3o
  have g5kd : σ.2.1 85 xq1 = ckd (tkS Sx jx) := (rfl).symm.trans ((hfx).1.kd (hx2))
  refine tn_bipush dX5_parameters_7 (by decide) ?_
  refine tn_icmp_ne (tgt := 14) dX5_parameters_9 (by decide) ⟨by omega, by omega⟩ ⟨by decide, by decide⟩ (fun h6 => ?_) (fun h6 => ?_)
  · refine tn_iconst dX5_parameters_14 ?_
    refine tn_istore_n (L' := [(1, .int (iI 0)), (0, .ref a)]) dX5_parameters_15 rfl (by decide) rfl ?_
    have hx7 : PLM σ a Sx nx jx cx Nx rp (0) Tg gs T mx := ⟨jx, [], by omega, PR.some hSb (by omega), hfx, rfl, NI2.nil, hmg, PRM.some hSb (by omega)⟩
    refine tn_sub [1, 0] rfl (l_X5_parameters_m_16 (d) (T := T) (σ0 := σ) (a := a) (kp := kp) (Sx := Sx) (nx := nx) (jx := jx) (cx := cx) (Nx := Nx) (Tg := Tg) (gs := gs) (mx := mx) (rp := rp) ha hw hj hrn hgf (by omega) (fun i18 σ9 w12 F13 r14 f15 f16 f17 f18 => ?_) (fun i119 σ20 w23 F24 r25 f26 f27 f28 => ?_) (fun i129 σ30 w33 F34 r35 f36 f37 f38 => ?_) _ (0) σ hw FrC.rfl (by omega) hx7 hrp rfl)
    · obtain ⟨i39, es40, k41, pr42, fx43, hk44⟩ := f17
      show Tn _ _ 36 T σ9 [(0, .ref a), (1, .int (iI i18))] [] _
      refine tn_aload_n dX5_parameters_36 rfl 0 rfl ?_
      refine tn_callV (M := m_X5_parameters) (pc := 37) (ix := 90) (ci := 5) (M' := m_X5_refuse) (As := []) (rest := []) dX5_parameters_37 ok_X5_refuse im_X5_refuse se_X5_refuse ml5_90 np_X5_refuse rfl rfl ha rfl (Nat.le_of_ble_eq_true rfl) (Nat.le_of_ble_eq_true rfl) rfl (k_X5_refuse_m (d + 2) (T := T) (σ := σ9) (a := a) ha w12 (fx43).1.1) (fun r45 T47 σ46 gt48 hp => ?_)
      obtain ⟨v54, rfl, rfl, w55, F56, f49, f50, f51, f52, f53⟩ := hp
      clear gt48
      have rp57 : RP σ46 a (kp) := RP.frc f16 F56 (by decide) (by decide) (by decide) (by decide) (by decide)
      show Tn _ _ 40 T σ46 [(0, .ref a), (1, .int (iI i18))] [.int (iI v54)] _
      exact tn_zret (v := v54) rfl (by omega) dX5_parameters_40 ⟨_, rfl, rfl, w55, ((FrC.rfl.trans (FrC.sub F13 (by decide))).trans (FrC.sub F56 (by decide))), by omega, ⟨fun q => absurd q (by omega), fun _ => ⟨⟨_, PR.fail hSb pr42 hk44, f51⟩, FG.nt f18 f53⟩⟩, (RP.up rp57 (by omega))⟩
    · show Tn _ _ 67 T σ20 [(0, .ref a), (1, .int (iI i119))] [] _
      refine tn_iconst dX5_parameters_67 ?_
      exact tn_zret (v := 1) rfl (by decide) dX5_parameters_68 ⟨_, rfl, rfl, w23, (FrC.rfl.trans (FrC.sub F24 (by decide))), by omega, ⟨fun _ => f28, fun q => absurd q (by decide)⟩, (RP.up f27 (by omega))⟩
    · show Tn _ _ 82 T σ30 [(0, .ref a), (1, .int (iI i129))] [] _
      exact absurd True.intro (by omega)
  · refine tn_iconst dX5_parameters_12 ?_
    have hx58 : PSM σ a Sx nx jx cx Nx rp Tg gs T mx := ⟨jx, [(7, 0, 0, 0)], 0, by omega, PR.none hSb (by omega), RDX.cq hfx (f7 (es := [])).symm, by rw [show ([(7, 0, 0, 0)] : List EW) = [] ++ [(7, 0, 0, 0)] from rfl, f7]; rfl, NI2.one (show (7 : Int) ≠ 2 by decide), hmg, PRM.none hSb (by omega), fun d9 hd9 _ => h80 d9 hd9, by rw [show ([(7, 0, 0, 0)] : List EW) = [] ++ [(7, 0, 0, 0)] from rfl, f7]; exact hr8⟩
    exact tn_zret (v := 1) rfl (by decide) dX5_parameters_13 ⟨_, rfl, rfl, hw, FrC.rfl, by omega, ⟨fun _ => hx58, fun q => absurd q (by decide)⟩, (RP.up hrp (by omega))⟩
end
section
def SPK (S : Nat → Prop) (T : CT) (σ : MS) (a : Nat) : Prop := S a ∧ ∀ q, 0 ≤ q → q < 7 → ∃ e : Nat, σ.2.1 (1000 + adN σ 34 a) q = (e : Int) ∧ S e ∧ (T e).1 = 31
def EMC (σ2 : MS) (a : Nat) (r : Int) : Prop := (σ2.2.1 8 a = 0 ∧ σ2.2.1 9 a = 0 ∧ σ2.2.1 10 a = 1) ∧ rwF σ2 11 a 0 = r ∧ rwF σ2 12 a 0 = -1 ∧ rwF σ2 13 a 0 = 0 ∧ rwF σ2 14 a 0 = 0
theorem k_empty_c (d : Nat) {T : CT} {σ : MS} {a : Nat} {r : Int} (ha : OB T a 1) (hta : (T a).1 = 31) (h_r : -2147483648 ≤ r ∧ r ≤ 2147483647) (hw : WT T σ) (hds : DS [adN σ 11 a, adN σ 12 a, adN σ 13 a, adN σ 14 a]) : Tn (d + 2) m_X1_empty 0 T σ [(0, .ref a), (1, .int (iI r))] [] (fun ro T2 σ2 => ro = none ∧ T = T2 ∧ WT T2 σ2 ∧ FrC T [6, 7, 8, 9, 10] σ σ2 ∧ (σ2.2.1 6 a = 0) ∧ (σ2.2.1 7 a = 0) ∧ (CHX [(6, a), (7, a), (8, a), (9, a), (10, a)] [adN σ 11 a, adN σ 12 a, adN σ 13 a, adN σ 14 a] [] σ σ2) ∧ (EMC σ2 a r)) := by
  have e := ad_1 hw ha
  refine (k_X1_empty_x d ha hta h_r hw (e 11 (by decide)) rfl (e 12 (by decide)) rfl (e 13 (by decide)) rfl (e 14 (by decide)) rfl hds).mono (fun ro T2 σ2 hp => ?_)
  obtain ⟨p1, p2, p3, p4, ch, ⟨⟨q6, q7, q8, q9⟩, q10⟩, r1, r2, r3, r4⟩ := hp
  have ea : ∀ f, f ∈ [11, 12, 13, 14] → adN σ2 f a = adN σ f a := fun f hf => by
    unfold adN
    rw [ch.f ((by decide : ∀ k ∈ [11, 12, 13, 14], k < 1000) f hf) (by simp only [List.mem_cons, List.not_mem_nil, or_false] at hf; simp; omega)]
  refine ⟨p1, p2, p3, p4, q6, q7, ch, ⟨q8, q9, q10⟩, ?_, ?_, ?_, ?_⟩
  · unfold rwF; rw [ea 11 (by decide)]; exact r1
  · unfold rwF; rw [ea 12 (by decide)]; exact r2
  · unfold rwF; rw [ea 13 (by decide)]; exact r3
  · unfold rwF; rw [ea 14 (by decide)]; exact r4
theorem INJ.d4 {S : Nat → Prop} {T : CT} {σ : MS} {c : Nat} (h : INJ S T σ) (sc : S c) (oc : OB T c 1) : DS [adN σ 11 c, adN σ 12 c, adN σ 13 c, adN σ 14 c] := h.ds (L := [(11, c), (12, c), (13, c), (14, c)]) (fun p hp => by
  simp only [List.mem_cons, List.not_mem_nil, or_false] at hp
  rcases hp with rfl | rfl | rfl | rfl <;> exact ⟨by simp, sc, oc⟩) (by simp)
abbrev OPKS (a c : Nat) : List (Nat × Nat) := [(35, a), (38, a), (43, a), (44, a), (46, a), (47, a), (6, c), (7, c), (8, c), (9, c), (10, c)]
abbrev OPRS (σ : MS) (a c : Nat) : List Nat := [adN σ 36 a, adN σ 37 a, adN σ 11 c, adN σ 12 c, adN σ 13 c, adN σ 14 c]
def OPM (σ σ2 : MS) (a c : Nat) (i : Int) : Prop := σ.2.1 (1000 + adN σ 34 a) i = (c : Int) ∧ σ2.2.1 35 a = (c : Int) ∧ (σ2.2.1 6 c = 0 ∧ σ2.2.1 7 c = 0 ∧ σ2.2.1 46 a = 0 ∧ σ2.2.1 47 a = 0) ∧ EMC σ2 c i ∧ CHX (OPKS a c) (OPRS σ a c) [] σ σ2
theorem EMC.cg {σ τ : MS} {a : Nat} {r : Int} (h : EMC σ a r) (hf : ∀ f, f ∈ [8, 9, 10, 11, 12, 13, 14] → τ.2.1 f a = σ.2.1 f a) (hr : ∀ f, f ∈ [11, 12, 13, 14] → τ.2.1 (1000 + adN σ f a) = σ.2.1 (1000 + adN σ f a)) : EMC τ a r := by
  have e : ∀ f, f ∈ [11, 12, 13, 14] → rwF τ f a = rwF σ f a := fun f hf2 => by
    unfold rwF
    rw [show adN τ f a = adN σ f a by unfold adN; rw [hf f ((by decide : ∀ k ∈ [11, 12, 13, 14], k ∈ [8, 9, 10, 11, 12, 13, 14]) f hf2)]]
    exact hr f hf2
  unfold EMC at h ⊢
  rw [hf 8 (by decide), hf 9 (by decide), hf 10 (by decide), e 11 (by decide), e 12 (by decide), e 13 (by decide), e 14 (by decide)]
  exact h
def fzg (σ : MS) : MS := (fun _ => 0, σ.2)
theorem MG.nw {T : CT} {σ : MS} {a c : Nat} {m : MK} (hc : σ.2.1 35 a = (c : Int)) (h6 : σ.2.1 6 c = 0) (h46 : σ.2.1 46 a = 0) (h47 : σ.2.1 47 a = 0) (h9 : σ.2.1 9 c = 0) (h45 : σ.2.1 45 a = m.ln) (h50 : σ.2.1 50 a = m.pk) (h51 : σ.2.1 51 a = m.pv) : MG T (fzg σ) T σ a m.e35 := by
  refine ⟨⟨GT.rfl, ⟨fun _ _ _ _ => rfl, fun _ _ _ => rfl, fun _ _ => rfl⟩, Or.inl rfl⟩, ?_⟩
  have e : adN (fzg σ) 35 a = c := adN_of hc
  rw [e]
  refine ⟨h6, fun _ => ⟨?_, fun k k0 k1 => absurd (show k < 0 from k1) (by omega), fun k k0 k1 => absurd (show k < 0 from k1) (by omega)⟩, h46, h47, h50, h51, h45, h9⟩
  show vW (cdW σ c) = fun _ => zI
  funext k
  show nrm (cdW σ c k) = zI
  have w : cdW σ c k = fun _ => 0 := by
    funext y
    unfold cdW cW
    rw [if_neg (by rw [h6]; omega)]
  rw [w, nrm_z]
end
section
set_option maxHeartbeats 1000000 in
set_option maxRecDepth 20000 in
theorem k_X5_openRoutine_m (d : Nat) {T : CT} {σ : MS} {a : Nat} {k : Int} {Sx : Int → Int} {nx jx : Nat} {cx : CS} {wx : Int64} {Sj : Nat → Prop} (ha : OB T a 5) (h_k : -2147483648 ≤ k ∧ k ≤ 2147483647) (hw : WT T σ) (hrt : RT σ a) (hf0 : RD0 σ a Sx nx jx cx) (hkw : KW k wx) (hpo : 5 * cx.rn ≤ (jx : Int)) (hI : INJ Sj T σ) (hSp : SPK Sj T σ a) : Tn (d + 3) m_X5_openRoutine 0 T σ [(0, .ref a), (1, .int (iI k))] [] (fun ro T2 σ2 => ro = none ∧ T = T2 ∧ WT T2 σ2 ∧ FrC T [6, 7, 8, 9, 10, 35, 38, 43, 44, 46, 47, 516, 517] σ σ2 ∧ (RP σ2 a 4) ∧ (RDX σ2 a Sx nx jx (uC cx (2, (tkS Sx jx).1, 0, wx)) 0) ∧ (∃ c : Nat, OPM σ σ2 a c (if cx.rn < 6 then cx.rn else 6))) := by
  have hSb := hf0.sb
  have e38 : σ.2.1 38 a = cx.rn := hf0.2.1.1.2.2.1
  have hjn := RD0.jn hf0 hw ha
  have b38 := wf_38 hw ha
  refine tn_aload_n dX5_openRoutine_0 rfl 0 rfl ?_
  refine tn_iload_n dX5_openRoutine_1 rfl 1 rfl ?_
  refine tn_callV (M := m_X5_openRoutine) (pc := 2) (ix := 109) (ci := 5) (M' := m_X5_routineOf) (As := [.int (iI k)]) (rest := []) dX5_openRoutine_2 ok_X5_routineOf im_X5_routineOf se_X5_routineOf ml5_109 np_X5_routineOf rfl rfl ha rfl (Nat.le_of_ble_eq_true rfl) (Nat.le_of_ble_eq_true rfl) rfl (k_X5_routineOf_f (d) (T := T) (σ := σ) (a := a) (k := k) ha (by omega) hw ) (fun r1 T3 σ2 gt4 hp => ?_)
  obtain ⟨v7, rfl, rfl, rfl, f5, f6⟩ := hp
  clear gt4
  show Tn _ _ 5 T σ [(0, .ref a), (1, .int (iI k))] [.int (iI v7)] _
  refine tn_iconst dX5_openRoutine_5 ?_
  refine tn_icmp_eq (tgt := 21) dX5_openRoutine_6 (by decide) ⟨by omega, by omega⟩ ⟨by decide, by decide⟩ (fun h8 => ?_) (fun h8 => ?_)
  · refine tn_aload_n dX5_openRoutine_21 rfl 0 rfl ?_
    refine tn_getI (ci := 5) (i := 5) (n := 38) (t := σ.2.1 38 a) dX5_openRoutine_22 rfl lay_5 (by decide) fl5_58 ha rfl rfl (rfl) ?_
    have g9 : ((0 : Int) ≤ σ.2.1 38 a ∧ σ.2.1 38 a ≤ 256) := wf_38 hw ha
    refine tn_bipush dX5_openRoutine_25 (by decide) ?_
    refine tn_icmp_lt (tgt := 42) dX5_openRoutine_27 (by decide) ⟨by omega, by omega⟩ ⟨by decide, by decide⟩ (fun h10 => ?_) (fun h10 => ?_)
    · obtain ⟨xq11, hx12, hk13, hl14⟩ : ∃ x : Nat, σ.2.1 36 a = (x : Int) ∧ AR T x 16 256 256 := wf_36 hw ha
      have hk13i : IA T xq11 := by unfold IA; omega
      have e3815 : σ.2.1 38 a = (cx).rn := (rfl).symm.trans (hf0).2.1.1.2.2.1
      have e3815c : (cx).rn = cx.rn := rfl
      refine tn_iconst dX5_openRoutine_42 ?_
      refine tn_aload_n dX5_openRoutine_43 rfl 0 rfl ?_
      refine tn_getI (ci := 5) (i := 5) (n := 38) (t := σ.2.1 38 a) dX5_openRoutine_44 rfl lay_5 (by decide) fl5_58 ha rfl rfl (rfl) ?_
      refine tn_aload_n dX5_openRoutine_47 rfl 0 rfl ?_
      obtain ⟨xq16, hx17, hk18, hl19⟩ : ∃ x : Nat, σ.2.1 34 a = (x : Int) ∧ AR T x 4 7 7 := wf_34 hw ha
      have hk18i : (T xq16).1 = 4 ∨ (T xq16).1 = 5 := by omega
      refine tn_getR (ci := 5) (i := 1) (n := 34) (x := xq16) dX5_openRoutine_48 rfl lay_5 (by decide) fl5_20 ha rfl rfl (hx17) ?_
      refine tn_alenX dX5_openRoutine_51 (by have q9 := hk18i; omega) ?_
      refine tn_iconst dX5_openRoutine_52 ?_
      refine tn_isub dX5_openRoutine_53 ?_
      refine tn_mmin (x := σ.2.1 38 a) (y := (((T xq16).2 : Int)) - 1) dX5_openRoutine_54 mlm5_117 stM_min iniM cdM_min (by omega) (Nat.le_of_ble_eq_true rfl) ⟨by omega, by omega⟩ ⟨by omega, by omega⟩ (fun z20 g21 => ?_)
      refine tn_mmax (x := 0) (y := z20) dX5_openRoutine_57 mlm5_123 stM_max iniM cdM_max (by omega) (Nat.le_of_ble_eq_true rfl) ⟨by omega, by omega⟩ ⟨by omega, by omega⟩ (fun z22 g23 => ?_)
      refine tn_istore_n (L' := [(2, .int (iI z22)), (0, .ref a), (1, .int (iI k))]) dX5_openRoutine_60 rfl (by decide) rfl ?_
      refine tn_aload_n dX5_openRoutine_61 rfl 1 rfl ?_
      refine tn_aload_n dX5_openRoutine_62 rfl 1 rfl ?_
      refine tn_getR (ci := 5) (i := 1) (n := 34) (x := xq16) dX5_openRoutine_63 rfl lay_5 (by decide) fl5_20 ha rfl rfl (hx17) ?_
      refine tn_iload_n dX5_openRoutine_66 rfl 0 rfl ?_
      obtain ⟨xq24, hx25, hk26⟩ := (hw).2.2.2.1.1 xq16 hk18 (z22) (by omega) (by omega)
      refine tn_aald (z := z22) (x := xq24) dX5_openRoutine_67 hk18i (by omega) (by omega) (by omega) hx25 ?_
      have hk26o : OB T xq24 1 := ⟨by omega, by rw [hk26]; rfl, by omega⟩
      have sp27c : CHX [(43, a), (44, a)] [] [] σ σ := (CHX.rfl (σ := σ) (ks := [(43, a), (44, a)]) (rs := []) (ls := []))
      have sp27a : adN σ 34 a = xq16 := adN_of ((sp27c.f (n := 34) (a := a) (by decide) (by simp)).symm.trans (show σ.2.1 34 a = (xq16 : Int) from hx17))
      have sp27i : z22 = (if cx.rn < 6 then cx.rn else 6) := by split <;> omega
      have sp27r : σ.2.1 (1000 + adN σ 34 a) (if cx.rn < 6 then cx.rn else 6) = (xq24 : Int) := by rw [sp27a, ← sp27i, ← sp27c.r (by simp)]; exact hx25
      have sp27s : Sj xq24 := by obtain ⟨e9, w1, w2, w3⟩ := hSp.2 (if cx.rn < 6 then cx.rn else 6) (by split <;> omega) (by split <;> omega); rw [sp27r] at w1; rw [show xq24 = e9 by omega]; exact w2
      refine tn_putV (ci := 5) (i := 2) (n := 35) (r := true) (v := (xq24 : Int)) tyX5 tyX5_ok nmX5 dX5_openRoutine_68 rfl lay_5 (by decide) fl5_47 rfl (tyX5_ok 2 (by decide)) (vl_ref rfl).symm rfl rfl ha rfl rfl ?_
      refine tn_aload_n dX5_openRoutine_71 rfl 1 rfl ?_
      refine tn_getR (ci := 5) (i := 2) (n := 35) (x := xq24) dX5_openRoutine_72 rfl lay_5 (by decide) fl5_47 ha rfl rfl (ra_eq) ?_
      refine tn_iload_n dX5_openRoutine_75 rfl 0 rfl ?_
      have sp27e11 : adN (sA 35 a ((xq24 : Int)) σ) 11 xq24 = adN σ 11 xq24 := by unfold adN; rw [show (sA 35 a ((xq24 : Int)) σ).2.1 11 xq24 = σ.2.1 11 xq24 from rc_o (by decide) (rfl)]
      have sp27e12 : adN (sA 35 a ((xq24 : Int)) σ) 12 xq24 = adN σ 12 xq24 := by unfold adN; rw [show (sA 35 a ((xq24 : Int)) σ).2.1 12 xq24 = σ.2.1 12 xq24 from rc_o (by decide) (rfl)]
      have sp27e13 : adN (sA 35 a ((xq24 : Int)) σ) 13 xq24 = adN σ 13 xq24 := by unfold adN; rw [show (sA 35 a ((xq24 : Int)) σ).2.1 13 xq24 = σ.2.1 13 xq24 from rc_o (by decide) (rfl)]
      have sp27e14 : adN (sA 35 a ((xq24 : Int)) σ) 14 xq24 = adN σ 14 xq24 := by unfold adN; rw [show (sA 35 a ((xq24 : Int)) σ).2.1 14 xq24 = σ.2.1 14 xq24 from rc_o (by decide) (rfl)]
      refine tn_callV (M := m_X5_openRoutine) (pc := 76) (ix := 126) (ci := 1) (M' := m_X1_empty) (As := [.int (iI z22)]) (rest := []) dX5_openRoutine_76 ok_X1_empty im_X1_empty se_X1_empty ml5_126 np_X1_empty rfl rfl hk26o rfl (Nat.le_of_ble_eq_true rfl) (Nat.le_of_ble_eq_true rfl) rfl (k_empty_c (d) (T := T) (σ := (sA 35 a ((xq24 : Int)) σ)) (a := xq24) (r := z22) hk26o hk26 (by omega) (hw.put (by decide) (by decide) (fo_35 ⟨_, rfl, hk26⟩)) (by rw [sp27e11, sp27e12, sp27e13, sp27e14]; exact hI.d4 sp27s hk26o)) (fun r28 T30 σ29 gt31 hp => ?_)
      obtain ⟨rfl, rfl, w37, F38, f32, f33, f34, f35⟩ := hp
      clear gt31
      have fx39 : RD0 σ29 a Sx nx jx (cx) := RD0.fc (hf0.pt (by decide) (by decide)) (hw.put (by decide) (by decide) (fo_35 ⟨_, rfl, hk26⟩)) ha F38 (by decide) (by decide)
      have sp27E := f34
      rw [sp27e11, sp27e12, sp27e13, sp27e14] at sp27E
      show Tn _ _ 79 T σ29 [(2, .int (iI z22)), (0, .ref a), (1, .int (iI k))] [] _
      refine tn_aload_n dX5_openRoutine_79 rfl 1 rfl ?_
      refine tn_getR (ci := 5) (i := 3) (n := 36) (x := xq11) dX5_openRoutine_80 rfl lay_5 (by decide) fl5_24 ha rfl rfl (rc_F F38 (Or.inl (by decide)) (by decide) (rc_o (by decide) (hx12))) ?_
      refine tn_aload_n dX5_openRoutine_83 rfl 1 rfl ?_
      refine tn_getI (ci := 5) (i := 5) (n := 38) (t := σ.2.1 38 a) dX5_openRoutine_84 rfl lay_5 (by decide) fl5_58 ha rfl rfl (rc_F F38 (Or.inl (by decide)) (by decide) (rc_o (by decide) (rfl))) ?_
      refine tn_iload_n dX5_openRoutine_87 rfl 2 rfl ?_
      refine tn_callSN (M := m_X5_openRoutine) (pc := 88) (ix := 129) (M' := m_X11_put) (As := [.ref xq11, .int (iI (σ.2.1 38 a)), .int (iI k)]) (rest := []) dX5_openRoutine_88 ok_X11_put stt_X11_put nl5_129 np_X11_put rfl (Nat.le_of_ble_eq_true rfl) (Nat.le_of_ble_eq_true rfl) rfl (k_X11_put_16 (d + 1) (T := T) (σ := σ29) (x := xq11) (i := σ.2.1 38 a) (y := k) hk13i (by omega) hk13 (by omega) (by omega) w37 ) (fun r40 T42 σ41 gt43 hp => ?_)
      obtain ⟨rfl, rfl, w46, F47, f44⟩ := hp
      clear gt43
      show Tn _ _ 91 T σ41 [(2, .int (iI z22)), (0, .ref a), (1, .int (iI k))] [] _
      refine tn_aload_n dX5_openRoutine_91 rfl 1 rfl ?_
      obtain ⟨xq48, hx49, hk50, hl51⟩ : ∃ x : Nat, σ.2.1 37 a = (x : Int) ∧ AR T x 17 256 256 := wf_37 hw ha
      have hk50i : IA T xq48 := by unfold IA; omega
      refine tn_getR (ci := 5) (i := 4) (n := 37) (x := xq48) dX5_openRoutine_92 rfl lay_5 (by decide) fl5_28 ha rfl rfl (rc_F F47 (Or.inl (by decide)) (by decide) (rc_F F38 (Or.inl (by decide)) (by decide) (rc_o (by decide) (hx49)))) ?_
      refine tn_aload_n dX5_openRoutine_95 rfl 1 rfl ?_
      refine tn_getI (ci := 5) (i := 5) (n := 38) (t := σ.2.1 38 a) dX5_openRoutine_96 rfl lay_5 (by decide) fl5_58 ha rfl rfl (rc_F F47 (Or.inl (by decide)) (by decide) (rc_F F38 (Or.inl (by decide)) (by decide) (rc_o (by decide) (rfl)))) ?_
      refine tn_iconst dX5_openRoutine_99 ?_
      refine tn_callSN (M := m_X5_openRoutine) (pc := 100) (ix := 129) (M' := m_X11_put) (As := [.ref xq48, .int (iI (σ.2.1 38 a)), .int (iI 0)]) (rest := []) dX5_openRoutine_100 ok_X11_put stt_X11_put nl5_129 np_X11_put rfl (Nat.le_of_ble_eq_true rfl) (Nat.le_of_ble_eq_true rfl) rfl (k_X11_put_17 (d + 1) (T := T) (σ := σ41) (x := xq48) (i := σ.2.1 38 a) (y := 0) hk50i (by omega) hk50 (by omega) (by decide) w46 ) (fun r52 T54 σ53 gt55 hp => ?_)
      obtain ⟨rfl, rfl, w58, F59, f56⟩ := hp
      clear gt55
      show Tn _ _ 103 T σ53 [(2, .int (iI z22)), (0, .ref a), (1, .int (iI k))] [] _
      refine tn_aload_n dX5_openRoutine_103 rfl 1 rfl ?_
      refine tn_aload_n dX5_openRoutine_104 rfl 1 rfl ?_
      refine tn_getI (ci := 5) (i := 5) (n := 38) (t := σ.2.1 38 a) dX5_openRoutine_105 rfl lay_5 (by decide) fl5_58 ha rfl rfl (rc_F F59 (Or.inl (by decide)) (by decide) (rc_F F47 (Or.inl (by decide)) (by decide) (rc_F F38 (Or.inl (by decide)) (by decide) (rc_o (by decide) (rfl))))) ?_
      refine tn_iconst dX5_openRoutine_108 ?_
      refine tn_iadd dX5_openRoutine_109 ?_
      refine tn_sipush dX5_openRoutine_110 (by decide) ?_
      refine tn_mmin (x := (σ.2.1 38 a) + 1) (y := 256) dX5_openRoutine_113 mlm5_117 stM_min iniM cdM_min (by omega) (Nat.le_of_ble_eq_true rfl) ⟨by omega, by omega⟩ ⟨by omega, by omega⟩ (fun z60 g61 => ?_)
      refine tn_putV (ci := 5) (i := 5) (n := 38) (r := false) (v := z60) tyX5 tyX5_ok nmX5 dX5_openRoutine_116 rfl lay_5 (by decide) fl5_58 rfl (tyX5_ok 5 (by decide)) rfl rfl rfl ha rfl rfl ?_
      refine tn_aload_n dX5_openRoutine_119 rfl 1 rfl ?_
      refine tn_iconst dX5_openRoutine_120 ?_
      refine tn_putV (ci := 5) (i := 13) (n := 46) (r := false) (v := 0) tyX5 tyX5_ok nmX5 dX5_openRoutine_121 rfl lay_5 (by decide) fl5_133 rfl (tyX5_ok 13 (by decide)) rfl rfl rfl ha rfl rfl ?_
      refine tn_aload_n dX5_openRoutine_124 rfl 1 rfl ?_
      refine tn_iconst dX5_openRoutine_125 ?_
      refine tn_putV (ci := 5) (i := 14) (n := 47) (r := false) (v := 0) tyX5 tyX5_ok nmX5 dX5_openRoutine_126 rfl lay_5 (by decide) fl5_136 rfl (tyX5_ok 14 (by decide)) rfl rfl rfl ha rfl rfl ?_
      have w62n : xq11 ≠ xq48 := fun e => by have q9 := hk13; rw [e] at q9; have w9 := hk50; omega
      have q63 : (sA 47 a (0) (sA 46 a (0) (sA 38 a (z60) σ53))).2.1 38 a = z60 := rc_o (by decide) (rc_o (by decide) (ra_eq))
      have q64 : (sA 47 a (0) (sA 46 a (0) (sA 38 a (z60) σ53))).2.1 35 a = (xq24 : Int) := rc_o (by decide) (rc_o (by decide) (rc_o (by decide) (rc_F F59 (Or.inl (by decide)) (by decide) (rc_F F47 (Or.inl (by decide)) (by decide) (rc_F F38 (Or.inl (by decide)) (by decide) (ra_eq))))))
      have w62o6 : σ29.2.1 (1000 + xq11) = σ.2.1 (1000 + xq11) := by rw [F38.2 xq11 (by rw [hk13]; unfold HT; omega) (by rw [hk13]; decide), sA_k (by omega)]
      have w62o7 : σ29.2.1 (1000 + xq48) = σ.2.1 (1000 + xq48) := by rw [F38.2 xq48 (by rw [hk50]; unfold HT; omega) (by rw [hk50]; decide), sA_k (by omega)]
      have w62a : ∀ x : Nat, σ.2.1 36 a = (x : Int) → ∀ i, (sA 47 a (0) (sA 46 a (0) (sA 38 a (z60) σ53))).2.1 (1000 + x) i = if i = (cx).rn then k else σ.2.1 (1000 + x) i := fun y hy i => by
          have e : y = xq11 := by rw [show σ.2.1 36 = σ.2.1 36 from rfl] at hy; omega
          rw [e, sA_k (by omega), sA_k (by omega), sA_k (by omega), f56, if_pos ⟨by omega, by omega⟩, sA_k (by omega), f44, if_pos ⟨by omega, by omega⟩, sA_at, e3815, w62o6]
      have w62b : ∀ x : Nat, σ.2.1 37 a = (x : Int) → ∀ i, (sA 47 a (0) (sA 46 a (0) (sA 38 a (z60) σ53))).2.1 (1000 + x) i = if i = (cx).rn then 0 else σ.2.1 (1000 + x) i := fun y hy i => by
          have e : y = xq48 := by rw [show σ.2.1 37 = σ.2.1 37 from rfl] at hy; omega
          rw [e, sA_k (by omega), sA_k (by omega), sA_k (by omega), f56, if_pos ⟨by omega, by omega⟩, sA_at, e3815, show σ41.2.1 (1000 + xq48) = σ.2.1 (1000 + xq48) by rw [f44, if_pos ⟨by omega, by omega⟩, sA_k (by omega), w62o7]]
      have w62r : RDX (sA 47 a (0) (sA 46 a (0) (sA 38 a (z60) σ53))) a Sx nx jx (rnC wx (cx)) 0 := RD0.op (d := xq24) hf0 hw ha (show FrC T [6, 7, 8, 9, 10, 35, 38, 46, 47, 516, 517] σ (sA 47 a (0) (sA 46 a (0) (sA 38 a (z60) σ53))) from (((((((FrC.rfl.put (by decide) (by decide)).trans (FrC.sub F38 (by decide))).trans (FrC.sub F47 (by decide))).trans (FrC.sub F59 (by decide))).put (by decide) (by decide)).put (by decide) (by decide)).put (by decide) (by decide))) (by rw [q63]; omega) q64 ((show (sA 47 a (0) (sA 46 a (0) (sA 38 a (z60) σ53))).2.1 6 xq24 = σ29.2.1 6 xq24 from rc_o (by decide) (rc_o (by decide) (rc_o (by decide) (rc_F F59 (Or.inl (by decide)) (by decide) (rc_F F47 (Or.inl (by decide)) (by decide) (rfl)))))).trans f32) ((show (sA 47 a (0) (sA 46 a (0) (sA 38 a (z60) σ53))).2.1 7 xq24 = σ29.2.1 7 xq24 from rc_o (by decide) (rc_o (by decide) (rc_o (by decide) (rc_F F59 (Or.inl (by decide)) (by decide) (rc_F F47 (Or.inl (by decide)) (by decide) (rfl)))))).trans f33) hkw w62a w62b hpo
      have w62q := ROQ.fd f6 hf0.2.1 hw ha hkw
      have ox65 : adN σ 36 a = xq11 := adN_of ((show (sA 47 a (0) (sA 46 a (0) (sA 38 a (z60) σ53))).2.1 36 a = σ.2.1 36 a from rc_o (by decide) (rc_o (by decide) (rc_o (by decide) (rc_F F59 (Or.inl (by decide)) (by decide) (rc_F F47 (Or.inl (by decide)) (by decide) (rc_F F38 (Or.inl (by decide)) (by decide) (rc_o (by decide) (rfl)))))))).symm.trans (show (sA 47 a (0) (sA 46 a (0) (sA 38 a (z60) σ53))).2.1 36 a = (xq11 : Int) from rc_o (by decide) (rc_o (by decide) (rc_o (by decide) (rc_F F59 (Or.inl (by decide)) (by decide) (rc_F F47 (Or.inl (by decide)) (by decide) (rc_F F38 (Or.inl (by decide)) (by decide) (rc_o (by decide) (hx12)))))))))
      have ox66 : adN σ 37 a = xq48 := adN_of ((show (sA 47 a (0) (sA 46 a (0) (sA 38 a (z60) σ53))).2.1 37 a = σ.2.1 37 a from rc_o (by decide) (rc_o (by decide) (rc_o (by decide) (rc_F F59 (Or.inl (by decide)) (by decide) (rc_F F47 (Or.inl (by decide)) (by decide) (rc_F F38 (Or.inl (by decide)) (by decide) (rc_o (by decide) (rfl)))))))).symm.trans (show (sA 47 a (0) (sA 46 a (0) (sA 38 a (z60) σ53))).2.1 37 a = (xq48 : Int) from rc_o (by decide) (rc_o (by decide) (rc_o (by decide) (rc_F F59 (Or.inl (by decide)) (by decide) (rc_F F47 (Or.inl (by decide)) (by decide) (rc_F F38 (Or.inl (by decide)) (by decide) (rc_o (by decide) (hx49)))))))))
      have sp27C : CHX (OPKS a xq24) (OPRS σ a xq24) [] σ (sA 47 a (0) (sA 46 a (0) (sA 38 a (z60) σ53))) := ((((CHX.pq (CHX.pq (((CHX.rfl (σ := σ) (ks := OPKS a xq24) (rs := OPRS σ a xq24) (ls := [])).fld (by simp) (by decide)).trans (CHX.sub sp27E (by simp) (by simp) (by simp))) f44 (by rw [← ox65]; simp)) f56 (by rw [← ox66]; simp)).fld (by simp) (by decide)).fld (by simp) (by decide)).fld (by simp) (by decide))
      have sp27D : CHX [(38, a), (46, a), (47, a)] [xq11, xq48] [] σ29 (sA 47 a (0) (sA 46 a (0) (sA 38 a (z60) σ53))) := ((((CHX.pq (CHX.pq (CHX.rfl (σ := σ29) (ks := [(38, a), (46, a), (47, a)]) (rs := [xq11, xq48]) (ls := [])) f44 (by simp)) f56 (by simp)).fld (by simp) (by decide)).fld (by simp) (by decide)).fld (by simp) (by decide))
      have sp27f11 : adN σ29 11 xq24 = adN σ 11 xq24 := by rw [← sp27e11]; unfold adN; rw [F38.1 11 (Or.inl (by decide)) (by decide)]
      have sp27f12 : adN σ29 12 xq24 = adN σ 12 xq24 := by rw [← sp27e12]; unfold adN; rw [F38.1 12 (Or.inl (by decide)) (by decide)]
      have sp27f13 : adN σ29 13 xq24 = adN σ 13 xq24 := by rw [← sp27e13]; unfold adN; rw [F38.1 13 (Or.inl (by decide)) (by decide)]
      have sp27f14 : adN σ29 14 xq24 = adN σ 14 xq24 := by rw [← sp27e14]; unfold adN; rw [F38.1 14 (Or.inl (by decide)) (by decide)]
      have sp27X : EMC (sA 47 a (0) (sA 46 a (0) (sA 38 a (z60) σ53))) xq24 (if cx.rn < 6 then cx.rn else 6) := by
        have q9 := f35
        rw [sp27i] at q9
        refine q9.cg (fun f hf => sp27D.f ((by decide : ∀ k ∈ [8, 9, 10, 11, 12, 13, 14], k < 1000) f hf) (by simp only [List.mem_cons, List.not_mem_nil, or_false] at hf; simp; omega)) (fun f hf => sp27D.r ?_)
        simp only [List.mem_cons, List.not_mem_nil, or_false] at hf
        have oc9 := hk26o
        rcases hf with rfl | rfl | rfl | rfl
        · rw [sp27f11, ← ox65, ← ox66]; simp only [List.mem_cons, List.not_mem_nil, or_false, not_or]; exact ⟨hI.ne sp27s hSp.1 oc9 ha (by decide) (by decide) (Or.inl (by decide)), hI.ne sp27s hSp.1 oc9 ha (by decide) (by decide) (Or.inl (by decide))⟩
        · rw [sp27f12, ← ox65, ← ox66]; simp only [List.mem_cons, List.not_mem_nil, or_false, not_or]; exact ⟨hI.ne sp27s hSp.1 oc9 ha (by decide) (by decide) (Or.inl (by decide)), hI.ne sp27s hSp.1 oc9 ha (by decide) (by decide) (Or.inl (by decide))⟩
        · rw [sp27f13, ← ox65, ← ox66]; simp only [List.mem_cons, List.not_mem_nil, or_false, not_or]; exact ⟨hI.ne sp27s hSp.1 oc9 ha (by decide) (by decide) (Or.inl (by decide)), hI.ne sp27s hSp.1 oc9 ha (by decide) (by decide) (Or.inl (by decide))⟩
        · rw [sp27f14, ← ox65, ← ox66]; simp only [List.mem_cons, List.not_mem_nil, or_false, not_or]; exact ⟨hI.ne sp27s hSp.1 oc9 ha (by decide) (by decide) (Or.inl (by decide)), hI.ne sp27s hSp.1 oc9 ha (by decide) (by decide) (Or.inl (by decide))⟩
      have q67 : (sA 47 a (0) (sA 46 a (0) (sA 38 a (z60) σ53))).2.1 35 a = (xq24 : Int) := rc_o (by decide) (rc_o (by decide) (rc_o (by decide) (rc_F F59 (Or.inl (by decide)) (by decide) (rc_F F47 (Or.inl (by decide)) (by decide) (rc_F F38 (Or.inl (by decide)) (by decide) (ra_eq))))))
      have q68 : (sA 47 a (0) (sA 46 a (0) (sA 38 a (z60) σ53))).2.1 46 a = 0 := rc_o (by decide) (ra_eq)
      have q69 : (sA 47 a (0) (sA 46 a (0) (sA 38 a (z60) σ53))).2.1 47 a = 0 := ra_eq
      exact tn_vret rfl dX5_openRoutine_129 ⟨rfl, rfl, (((w58.put (by decide) (by decide) (fo_38 (by omega))).put (by decide) (by decide) (fo_46 (by omega))).put (by decide) (by decide) (fo_47 (by omega))), (((((((FrC.rfl.put (by decide) (by decide)).trans (FrC.sub F38 (by decide))).trans (FrC.sub F47 (by decide))).trans (FrC.sub F59 (by decide))).put (by decide) (by decide)).put (by decide) (by decide)).put (by decide) (by decide)), (RP.new (RT.frc hrt (show FrC T [6, 7, 8, 9, 10, 35, 38, 43, 44, 46, 47, 516, 517] σ (sA 47 a (0) (sA 46 a (0) (sA 38 a (z60) σ53))) from (((((((FrC.rfl.put (by decide) (by decide)).trans (FrC.sub F38 (by decide))).trans (FrC.sub F47 (by decide))).trans (FrC.sub F59 (by decide))).put (by decide) (by decide)).put (by decide) (by decide)).put (by decide) (by decide))) (by decide) (by decide) (by decide)) (((w58.put (by decide) (by decide) (fo_38 (by omega))).put (by decide) (by decide) (fo_46 (by omega))).put (by decide) (by decide) (fo_47 (by omega))) ha (rc_o (by decide) (rc_o (by decide) (rc_o (by decide) (rc_F F59 (Or.inl (by decide)) (by decide) (rc_F F47 (Or.inl (by decide)) (by decide) (rc_F F38 (Or.inl (by decide)) (by decide) (ra_eq))))))) (by rw [show (sA 47 a (0) (sA 46 a (0) (sA 38 a (z60) σ53))).2.1 6 xq24 = σ29.2.1 6 xq24 from rc_o (by decide) (rc_o (by decide) (rc_o (by decide) (rc_F F59 (Or.inl (by decide)) (by decide) (rc_F F47 (Or.inl (by decide)) (by decide) (rfl)))))]; omega)), RDX.cq w62r (by rw [uC2c]; unfold ifN; rw [ifP_f (show ¬ 6 ≤ cx.rn by omega), ifP_f (fun q => absurd (w62q.mpr q) (by omega))]), ⟨xq24, sp27r, q67, ⟨(show (sA 47 a (0) (sA 46 a (0) (sA 38 a (z60) σ53))).2.1 6 xq24 = σ29.2.1 6 xq24 from rc_o (by decide) (rc_o (by decide) (rc_o (by decide) (rc_F F59 (Or.inl (by decide)) (by decide) (rc_F F47 (Or.inl (by decide)) (by decide) (rfl)))))).trans f32, (show (sA 47 a (0) (sA 46 a (0) (sA 38 a (z60) σ53))).2.1 7 xq24 = σ29.2.1 7 xq24 from rc_o (by decide) (rc_o (by decide) (rc_o (by decide) (rc_F F59 (Or.inl (by decide)) (by decide) (rc_F F47 (Or.inl (by decide)) (by decide) (rfl)))))).trans f33, q68, q69⟩, sp27X, sp27C⟩⟩
    · refine tn_aload_n dX5_openRoutine_30 rfl 0 rfl ?_
      refine tn_iconst dX5_openRoutine_31 ?_
      refine tn_aload_n dX5_openRoutine_32 rfl 0 rfl ?_
      obtain ⟨xq70, hx71, hk72⟩ : ∃ x : Nat, σ.2.1 33 a = (x : Int) ∧ (T x).1 = 39 := wf_33 hw ha
      have hk72o : OB T xq70 9 := ⟨by omega, by rw [hk72]; rfl, by omega⟩
      refine tn_getR (ci := 5) (i := 0) (n := 33) (x := xq70) dX5_openRoutine_33 rfl lay_5 (by decide) fl5_12 ha rfl rfl (hx71) ?_
      refine tn_getI (ci := 9) (i := 6) (n := 87) (t := σ.2.1 87 xq70) dX5_openRoutine_36 rfl lay_9 (by decide) fl5_74 hk72o rfl rfl (rfl) ?_
      have g74 : ((-2147483648 : Int) ≤ σ.2.1 87 xq70 ∧ σ.2.1 87 xq70 ≤ 2147483647) := wf_87 hw hk72o
      have g74pl : σ.2.1 87 xq70 = (tkS Sx jx).1 := (rfl).symm.trans ((hf0).pl (hx71))
      refine tn_callV (M := m_X5_openRoutine) (pc := 39) (ix := 113) (ci := 5) (M' := m_X5_note) (As := [.int (iI 5), .int (iI (σ.2.1 87 xq70))]) (rest := []) dX5_openRoutine_39 ok_X5_note im_X5_note se_X5_note ml5_113 np_X5_note rfl rfl ha rfl (Nat.le_of_ble_eq_true rfl) (Nat.le_of_ble_eq_true rfl) rfl (k_X5_note_m (d + 1) (T := T) (σ := σ) (a := a) (f := 5) (p := σ.2.1 87 xq70) ha (by decide) (by omega) hw ) (fun r75 T77 σ76 gt78 hp => ?_)
      obtain ⟨rfl, rfl, w82, F83, f79, f80⟩ := hp
      clear gt78
      have fx84 : RD0 σ76 a Sx nx jx (fpC (cntN 5 (σ.2.1 87 xq70) (cx).fp) (cx)) := RD0.nt hf0 hw ha F83 f79
      show Tn _ _ 42 T σ76 [(0, .ref a), (1, .int (iI k))] [] _
      obtain ⟨xq85, hx86, hk87, hl88⟩ : ∃ x : Nat, σ.2.1 36 a = (x : Int) ∧ AR T x 16 256 256 := wf_36 hw ha
      have hk87i : IA T xq85 := by unfold IA; omega
      have e3889 : σ.2.1 38 a = (fpC (cntN 5 (σ.2.1 87 xq70) (cx).fp) (cx)).rn := (rc_F F83 (Or.inl (by decide)) (by decide) (rfl)).symm.trans (fx84).2.1.1.2.2.1
      have e3889c : (fpC (cntN 5 (σ.2.1 87 xq70) (cx).fp) (cx)).rn = cx.rn := rfl
      refine tn_iconst dX5_openRoutine_42 ?_
      refine tn_aload_n dX5_openRoutine_43 rfl 0 rfl ?_
      refine tn_getI (ci := 5) (i := 5) (n := 38) (t := σ.2.1 38 a) dX5_openRoutine_44 rfl lay_5 (by decide) fl5_58 ha rfl rfl (rc_F F83 (Or.inl (by decide)) (by decide) (rfl)) ?_
      refine tn_aload_n dX5_openRoutine_47 rfl 0 rfl ?_
      obtain ⟨xq90, hx91, hk92, hl93⟩ : ∃ x : Nat, σ.2.1 34 a = (x : Int) ∧ AR T x 4 7 7 := wf_34 hw ha
      have hk92i : (T xq90).1 = 4 ∨ (T xq90).1 = 5 := by omega
      refine tn_getR (ci := 5) (i := 1) (n := 34) (x := xq90) dX5_openRoutine_48 rfl lay_5 (by decide) fl5_20 ha rfl rfl (rc_F F83 (Or.inl (by decide)) (by decide) (hx91)) ?_
      refine tn_alenX dX5_openRoutine_51 (by have q9 := hk92i; omega) ?_
      refine tn_iconst dX5_openRoutine_52 ?_
      refine tn_isub dX5_openRoutine_53 ?_
      refine tn_mmin (x := σ.2.1 38 a) (y := (((T xq90).2 : Int)) - 1) dX5_openRoutine_54 mlm5_117 stM_min iniM cdM_min (by omega) (Nat.le_of_ble_eq_true rfl) ⟨by omega, by omega⟩ ⟨by omega, by omega⟩ (fun z94 g95 => ?_)
      refine tn_mmax (x := 0) (y := z94) dX5_openRoutine_57 mlm5_123 stM_max iniM cdM_max (by omega) (Nat.le_of_ble_eq_true rfl) ⟨by omega, by omega⟩ ⟨by omega, by omega⟩ (fun z96 g97 => ?_)
      refine tn_istore_n (L' := [(2, .int (iI z96)), (0, .ref a), (1, .int (iI k))]) dX5_openRoutine_60 rfl (by decide) rfl ?_
      refine tn_aload_n dX5_openRoutine_61 rfl 1 rfl ?_
      refine tn_aload_n dX5_openRoutine_62 rfl 1 rfl ?_
      refine tn_getR (ci := 5) (i := 1) (n := 34) (x := xq90) dX5_openRoutine_63 rfl lay_5 (by decide) fl5_20 ha rfl rfl (rc_F F83 (Or.inl (by decide)) (by decide) (hx91)) ?_
      refine tn_iload_n dX5_openRoutine_66 rfl 0 rfl ?_
      obtain ⟨xq98, hx99, hk100⟩ := (w82).2.2.2.1.1 xq90 hk92 (z96) (by omega) (by omega)
      refine tn_aald (z := z96) (x := xq98) dX5_openRoutine_67 hk92i (by omega) (by omega) (by omega) hx99 ?_
      have hk100o : OB T xq98 1 := ⟨by omega, by rw [hk100]; rfl, by omega⟩
      have sp101c : CHX [(43, a), (44, a)] [] [] σ σ76 := ((CHX.rfl (σ := σ) (ks := [(43, a), (44, a)]) (rs := []) (ls := [])).trans f80)
      have sp101a : adN σ 34 a = xq90 := adN_of ((sp101c.f (n := 34) (a := a) (by decide) (by simp)).symm.trans (show σ76.2.1 34 a = (xq90 : Int) from rc_F F83 (Or.inl (by decide)) (by decide) (hx91)))
      have sp101i : z96 = (if cx.rn < 6 then cx.rn else 6) := by split <;> omega
      have sp101r : σ.2.1 (1000 + adN σ 34 a) (if cx.rn < 6 then cx.rn else 6) = (xq98 : Int) := by rw [sp101a, ← sp101i, ← sp101c.r (by simp)]; exact hx99
      have sp101s : Sj xq98 := by obtain ⟨e9, w1, w2, w3⟩ := hSp.2 (if cx.rn < 6 then cx.rn else 6) (by split <;> omega) (by split <;> omega); rw [sp101r] at w1; rw [show xq98 = e9 by omega]; exact w2
      refine tn_putV (ci := 5) (i := 2) (n := 35) (r := true) (v := (xq98 : Int)) tyX5 tyX5_ok nmX5 dX5_openRoutine_68 rfl lay_5 (by decide) fl5_47 rfl (tyX5_ok 2 (by decide)) (vl_ref rfl).symm rfl rfl ha rfl rfl ?_
      refine tn_aload_n dX5_openRoutine_71 rfl 1 rfl ?_
      refine tn_getR (ci := 5) (i := 2) (n := 35) (x := xq98) dX5_openRoutine_72 rfl lay_5 (by decide) fl5_47 ha rfl rfl (ra_eq) ?_
      refine tn_iload_n dX5_openRoutine_75 rfl 0 rfl ?_
      have sp101e11 : adN (sA 35 a ((xq98 : Int)) σ76) 11 xq98 = adN σ 11 xq98 := by unfold adN; rw [show (sA 35 a ((xq98 : Int)) σ76).2.1 11 xq98 = σ.2.1 11 xq98 from rc_o (by decide) (rc_F F83 (Or.inl (by decide)) (by decide) (rfl))]
      have sp101e12 : adN (sA 35 a ((xq98 : Int)) σ76) 12 xq98 = adN σ 12 xq98 := by unfold adN; rw [show (sA 35 a ((xq98 : Int)) σ76).2.1 12 xq98 = σ.2.1 12 xq98 from rc_o (by decide) (rc_F F83 (Or.inl (by decide)) (by decide) (rfl))]
      have sp101e13 : adN (sA 35 a ((xq98 : Int)) σ76) 13 xq98 = adN σ 13 xq98 := by unfold adN; rw [show (sA 35 a ((xq98 : Int)) σ76).2.1 13 xq98 = σ.2.1 13 xq98 from rc_o (by decide) (rc_F F83 (Or.inl (by decide)) (by decide) (rfl))]
      have sp101e14 : adN (sA 35 a ((xq98 : Int)) σ76) 14 xq98 = adN σ 14 xq98 := by unfold adN; rw [show (sA 35 a ((xq98 : Int)) σ76).2.1 14 xq98 = σ.2.1 14 xq98 from rc_o (by decide) (rc_F F83 (Or.inl (by decide)) (by decide) (rfl))]
      refine tn_callV (M := m_X5_openRoutine) (pc := 76) (ix := 126) (ci := 1) (M' := m_X1_empty) (As := [.int (iI z96)]) (rest := []) dX5_openRoutine_76 ok_X1_empty im_X1_empty se_X1_empty ml5_126 np_X1_empty rfl rfl hk100o rfl (Nat.le_of_ble_eq_true rfl) (Nat.le_of_ble_eq_true rfl) rfl (k_empty_c (d) (T := T) (σ := (sA 35 a ((xq98 : Int)) σ76)) (a := xq98) (r := z96) hk100o hk100 (by omega) (w82.put (by decide) (by decide) (fo_35 ⟨_, rfl, hk100⟩)) (by rw [sp101e11, sp101e12, sp101e13, sp101e14]; exact hI.d4 sp101s hk100o)) (fun r102 T104 σ103 gt105 hp => ?_)
      obtain ⟨rfl, rfl, w111, F112, f106, f107, f108, f109⟩ := hp
      clear gt105
      have fx113 : RD0 σ103 a Sx nx jx (fpC (cntN 5 (σ.2.1 87 xq70) (cx).fp) (cx)) := RD0.fc (fx84.pt (by decide) (by decide)) (w82.put (by decide) (by decide) (fo_35 ⟨_, rfl, hk100⟩)) ha F112 (by decide) (by decide)
      have sp101E := f108
      rw [sp101e11, sp101e12, sp101e13, sp101e14] at sp101E
      show Tn _ _ 79 T σ103 [(2, .int (iI z96)), (0, .ref a), (1, .int (iI k))] [] _
      refine tn_aload_n dX5_openRoutine_79 rfl 1 rfl ?_
      refine tn_getR (ci := 5) (i := 3) (n := 36) (x := xq85) dX5_openRoutine_80 rfl lay_5 (by decide) fl5_24 ha rfl rfl (rc_F F112 (Or.inl (by decide)) (by decide) (rc_o (by decide) (rc_F F83 (Or.inl (by decide)) (by decide) (hx86)))) ?_
      refine tn_aload_n dX5_openRoutine_83 rfl 1 rfl ?_
      refine tn_getI (ci := 5) (i := 5) (n := 38) (t := σ.2.1 38 a) dX5_openRoutine_84 rfl lay_5 (by decide) fl5_58 ha rfl rfl (rc_F F112 (Or.inl (by decide)) (by decide) (rc_o (by decide) (rc_F F83 (Or.inl (by decide)) (by decide) (rfl)))) ?_
      refine tn_iload_n dX5_openRoutine_87 rfl 2 rfl ?_
      refine tn_callSN (M := m_X5_openRoutine) (pc := 88) (ix := 129) (M' := m_X11_put) (As := [.ref xq85, .int (iI (σ.2.1 38 a)), .int (iI k)]) (rest := []) dX5_openRoutine_88 ok_X11_put stt_X11_put nl5_129 np_X11_put rfl (Nat.le_of_ble_eq_true rfl) (Nat.le_of_ble_eq_true rfl) rfl (k_X11_put_16 (d + 1) (T := T) (σ := σ103) (x := xq85) (i := σ.2.1 38 a) (y := k) hk87i (by omega) hk87 (by omega) (by omega) w111 ) (fun r114 T116 σ115 gt117 hp => ?_)
      obtain ⟨rfl, rfl, w120, F121, f118⟩ := hp
      clear gt117
      show Tn _ _ 91 T σ115 [(2, .int (iI z96)), (0, .ref a), (1, .int (iI k))] [] _
      refine tn_aload_n dX5_openRoutine_91 rfl 1 rfl ?_
      obtain ⟨xq122, hx123, hk124, hl125⟩ : ∃ x : Nat, σ.2.1 37 a = (x : Int) ∧ AR T x 17 256 256 := wf_37 hw ha
      have hk124i : IA T xq122 := by unfold IA; omega
      refine tn_getR (ci := 5) (i := 4) (n := 37) (x := xq122) dX5_openRoutine_92 rfl lay_5 (by decide) fl5_28 ha rfl rfl (rc_F F121 (Or.inl (by decide)) (by decide) (rc_F F112 (Or.inl (by decide)) (by decide) (rc_o (by decide) (rc_F F83 (Or.inl (by decide)) (by decide) (hx123))))) ?_
      refine tn_aload_n dX5_openRoutine_95 rfl 1 rfl ?_
      refine tn_getI (ci := 5) (i := 5) (n := 38) (t := σ.2.1 38 a) dX5_openRoutine_96 rfl lay_5 (by decide) fl5_58 ha rfl rfl (rc_F F121 (Or.inl (by decide)) (by decide) (rc_F F112 (Or.inl (by decide)) (by decide) (rc_o (by decide) (rc_F F83 (Or.inl (by decide)) (by decide) (rfl))))) ?_
      refine tn_iconst dX5_openRoutine_99 ?_
      refine tn_callSN (M := m_X5_openRoutine) (pc := 100) (ix := 129) (M' := m_X11_put) (As := [.ref xq122, .int (iI (σ.2.1 38 a)), .int (iI 0)]) (rest := []) dX5_openRoutine_100 ok_X11_put stt_X11_put nl5_129 np_X11_put rfl (Nat.le_of_ble_eq_true rfl) (Nat.le_of_ble_eq_true rfl) rfl (k_X11_put_17 (d + 1) (T := T) (σ := σ115) (x := xq122) (i := σ.2.1 38 a) (y := 0) hk124i (by omega) hk124 (by omega) (by decide) w120 ) (fun r126 T128 σ127 gt129 hp => ?_)
      obtain ⟨rfl, rfl, w132, F133, f130⟩ := hp
      clear gt129
      show Tn _ _ 103 T σ127 [(2, .int (iI z96)), (0, .ref a), (1, .int (iI k))] [] _
      refine tn_aload_n dX5_openRoutine_103 rfl 1 rfl ?_
      refine tn_aload_n dX5_openRoutine_104 rfl 1 rfl ?_
      refine tn_getI (ci := 5) (i := 5) (n := 38) (t := σ.2.1 38 a) dX5_openRoutine_105 rfl lay_5 (by decide) fl5_58 ha rfl rfl (rc_F F133 (Or.inl (by decide)) (by decide) (rc_F F121 (Or.inl (by decide)) (by decide) (rc_F F112 (Or.inl (by decide)) (by decide) (rc_o (by decide) (rc_F F83 (Or.inl (by decide)) (by decide) (rfl)))))) ?_
      refine tn_iconst dX5_openRoutine_108 ?_
      refine tn_iadd dX5_openRoutine_109 ?_
      refine tn_sipush dX5_openRoutine_110 (by decide) ?_
      refine tn_mmin (x := (σ.2.1 38 a) + 1) (y := 256) dX5_openRoutine_113 mlm5_117 stM_min iniM cdM_min (by omega) (Nat.le_of_ble_eq_true rfl) ⟨by omega, by omega⟩ ⟨by omega, by omega⟩ (fun z134 g135 => ?_)
      refine tn_putV (ci := 5) (i := 5) (n := 38) (r := false) (v := z134) tyX5 tyX5_ok nmX5 dX5_openRoutine_116 rfl lay_5 (by decide) fl5_58 rfl (tyX5_ok 5 (by decide)) rfl rfl rfl ha rfl rfl ?_
      refine tn_aload_n dX5_openRoutine_119 rfl 1 rfl ?_
      refine tn_iconst dX5_openRoutine_120 ?_
      refine tn_putV (ci := 5) (i := 13) (n := 46) (r := false) (v := 0) tyX5 tyX5_ok nmX5 dX5_openRoutine_121 rfl lay_5 (by decide) fl5_133 rfl (tyX5_ok 13 (by decide)) rfl rfl rfl ha rfl rfl ?_
      refine tn_aload_n dX5_openRoutine_124 rfl 1 rfl ?_
      refine tn_iconst dX5_openRoutine_125 ?_
      refine tn_putV (ci := 5) (i := 14) (n := 47) (r := false) (v := 0) tyX5 tyX5_ok nmX5 dX5_openRoutine_126 rfl lay_5 (by decide) fl5_136 rfl (tyX5_ok 14 (by decide)) rfl rfl rfl ha rfl rfl ?_
      have w136n : xq85 ≠ xq122 := fun e => by have q9 := hk87; rw [e] at q9; have w9 := hk124; omega
      have q137 : (sA 47 a (0) (sA 46 a (0) (sA 38 a (z134) σ127))).2.1 38 a = z134 := rc_o (by decide) (rc_o (by decide) (ra_eq))
      have q138 : (sA 47 a (0) (sA 46 a (0) (sA 38 a (z134) σ127))).2.1 35 a = (xq98 : Int) := rc_o (by decide) (rc_o (by decide) (rc_o (by decide) (rc_F F133 (Or.inl (by decide)) (by decide) (rc_F F121 (Or.inl (by decide)) (by decide) (rc_F F112 (Or.inl (by decide)) (by decide) (ra_eq))))))
      have w136o6 : σ103.2.1 (1000 + xq85) = σ76.2.1 (1000 + xq85) := by rw [F112.2 xq85 (by rw [hk87]; unfold HT; omega) (by rw [hk87]; decide), sA_k (by omega)]
      have w136o7 : σ103.2.1 (1000 + xq122) = σ76.2.1 (1000 + xq122) := by rw [F112.2 xq122 (by rw [hk124]; unfold HT; omega) (by rw [hk124]; decide), sA_k (by omega)]
      have w136a : ∀ x : Nat, σ76.2.1 36 a = (x : Int) → ∀ i, (sA 47 a (0) (sA 46 a (0) (sA 38 a (z134) σ127))).2.1 (1000 + x) i = if i = (fpC (cntN 5 (σ.2.1 87 xq70) (cx).fp) (cx)).rn then k else σ76.2.1 (1000 + x) i := fun y hy i => by
          have e : y = xq85 := by rw [show σ76.2.1 36 = σ.2.1 36 from (F83.1 36 (Or.inl (by decide)) (by decide))] at hy; omega
          rw [e, sA_k (by omega), sA_k (by omega), sA_k (by omega), f130, if_pos ⟨by omega, by omega⟩, sA_k (by omega), f118, if_pos ⟨by omega, by omega⟩, sA_at, e3889, w136o6]
      have w136b : ∀ x : Nat, σ76.2.1 37 a = (x : Int) → ∀ i, (sA 47 a (0) (sA 46 a (0) (sA 38 a (z134) σ127))).2.1 (1000 + x) i = if i = (fpC (cntN 5 (σ.2.1 87 xq70) (cx).fp) (cx)).rn then 0 else σ76.2.1 (1000 + x) i := fun y hy i => by
          have e : y = xq122 := by rw [show σ76.2.1 37 = σ.2.1 37 from (F83.1 37 (Or.inl (by decide)) (by decide))] at hy; omega
          rw [e, sA_k (by omega), sA_k (by omega), sA_k (by omega), f130, if_pos ⟨by omega, by omega⟩, sA_at, e3889, show σ115.2.1 (1000 + xq122) = σ76.2.1 (1000 + xq122) by rw [f118, if_pos ⟨by omega, by omega⟩, sA_k (by omega), w136o7]]
      have w136r : RDX (sA 47 a (0) (sA 46 a (0) (sA 38 a (z134) σ127))) a Sx nx jx (rnC wx (fpC (cntN 5 (σ.2.1 87 xq70) (cx).fp) (cx))) 0 := RD0.op (d := xq98) fx84 w82 ha (show FrC T [6, 7, 8, 9, 10, 35, 38, 46, 47, 516, 517] σ76 (sA 47 a (0) (sA 46 a (0) (sA 38 a (z134) σ127))) from (((((((FrC.rfl.put (by decide) (by decide)).trans (FrC.sub F112 (by decide))).trans (FrC.sub F121 (by decide))).trans (FrC.sub F133 (by decide))).put (by decide) (by decide)).put (by decide) (by decide)).put (by decide) (by decide))) (by rw [q137]; omega) q138 ((show (sA 47 a (0) (sA 46 a (0) (sA 38 a (z134) σ127))).2.1 6 xq98 = σ103.2.1 6 xq98 from rc_o (by decide) (rc_o (by decide) (rc_o (by decide) (rc_F F133 (Or.inl (by decide)) (by decide) (rc_F F121 (Or.inl (by decide)) (by decide) (rfl)))))).trans f106) ((show (sA 47 a (0) (sA 46 a (0) (sA 38 a (z134) σ127))).2.1 7 xq98 = σ103.2.1 7 xq98 from rc_o (by decide) (rc_o (by decide) (rc_o (by decide) (rc_F F133 (Or.inl (by decide)) (by decide) (rc_F F121 (Or.inl (by decide)) (by decide) (rfl)))))).trans f107) hkw w136a w136b hpo
      have w136q := ROQ.fd f6 hf0.2.1 hw ha hkw
      have ox139 : adN σ 36 a = xq85 := adN_of ((show (sA 47 a (0) (sA 46 a (0) (sA 38 a (z134) σ127))).2.1 36 a = σ.2.1 36 a from rc_o (by decide) (rc_o (by decide) (rc_o (by decide) (rc_F F133 (Or.inl (by decide)) (by decide) (rc_F F121 (Or.inl (by decide)) (by decide) (rc_F F112 (Or.inl (by decide)) (by decide) (rc_o (by decide) (rc_F F83 (Or.inl (by decide)) (by decide) (rfl))))))))).symm.trans (show (sA 47 a (0) (sA 46 a (0) (sA 38 a (z134) σ127))).2.1 36 a = (xq85 : Int) from rc_o (by decide) (rc_o (by decide) (rc_o (by decide) (rc_F F133 (Or.inl (by decide)) (by decide) (rc_F F121 (Or.inl (by decide)) (by decide) (rc_F F112 (Or.inl (by decide)) (by decide) (rc_o (by decide) (rc_F F83 (Or.inl (by decide)) (by decide) (hx86))))))))))
      have ox140 : adN σ 37 a = xq122 := adN_of ((show (sA 47 a (0) (sA 46 a (0) (sA 38 a (z134) σ127))).2.1 37 a = σ.2.1 37 a from rc_o (by decide) (rc_o (by decide) (rc_o (by decide) (rc_F F133 (Or.inl (by decide)) (by decide) (rc_F F121 (Or.inl (by decide)) (by decide) (rc_F F112 (Or.inl (by decide)) (by decide) (rc_o (by decide) (rc_F F83 (Or.inl (by decide)) (by decide) (rfl))))))))).symm.trans (show (sA 47 a (0) (sA 46 a (0) (sA 38 a (z134) σ127))).2.1 37 a = (xq122 : Int) from rc_o (by decide) (rc_o (by decide) (rc_o (by decide) (rc_F F133 (Or.inl (by decide)) (by decide) (rc_F F121 (Or.inl (by decide)) (by decide) (rc_F F112 (Or.inl (by decide)) (by decide) (rc_o (by decide) (rc_F F83 (Or.inl (by decide)) (by decide) (hx123))))))))))
      have sp101C : CHX (OPKS a xq98) (OPRS σ a xq98) [] σ (sA 47 a (0) (sA 46 a (0) (sA 38 a (z134) σ127))) := ((((CHX.pq (CHX.pq ((((CHX.rfl (σ := σ) (ks := OPKS a xq98) (rs := OPRS σ a xq98) (ls := [])).trans (CHX.sub f80 (by simp) (by simp) (by simp))).fld (by simp) (by decide)).trans (CHX.sub sp101E (by simp) (by simp) (by simp))) f118 (by rw [← ox139]; simp)) f130 (by rw [← ox140]; simp)).fld (by simp) (by decide)).fld (by simp) (by decide)).fld (by simp) (by decide))
      have sp101D : CHX [(38, a), (46, a), (47, a)] [xq85, xq122] [] σ103 (sA 47 a (0) (sA 46 a (0) (sA 38 a (z134) σ127))) := ((((CHX.pq (CHX.pq (CHX.rfl (σ := σ103) (ks := [(38, a), (46, a), (47, a)]) (rs := [xq85, xq122]) (ls := [])) f118 (by simp)) f130 (by simp)).fld (by simp) (by decide)).fld (by simp) (by decide)).fld (by simp) (by decide))
      have sp101f11 : adN σ103 11 xq98 = adN σ 11 xq98 := by rw [← sp101e11]; unfold adN; rw [F112.1 11 (Or.inl (by decide)) (by decide)]
      have sp101f12 : adN σ103 12 xq98 = adN σ 12 xq98 := by rw [← sp101e12]; unfold adN; rw [F112.1 12 (Or.inl (by decide)) (by decide)]
      have sp101f13 : adN σ103 13 xq98 = adN σ 13 xq98 := by rw [← sp101e13]; unfold adN; rw [F112.1 13 (Or.inl (by decide)) (by decide)]
      have sp101f14 : adN σ103 14 xq98 = adN σ 14 xq98 := by rw [← sp101e14]; unfold adN; rw [F112.1 14 (Or.inl (by decide)) (by decide)]
      have sp101X : EMC (sA 47 a (0) (sA 46 a (0) (sA 38 a (z134) σ127))) xq98 (if cx.rn < 6 then cx.rn else 6) := by
        have q9 := f109
        rw [sp101i] at q9
        refine q9.cg (fun f hf => sp101D.f ((by decide : ∀ k ∈ [8, 9, 10, 11, 12, 13, 14], k < 1000) f hf) (by simp only [List.mem_cons, List.not_mem_nil, or_false] at hf; simp; omega)) (fun f hf => sp101D.r ?_)
        simp only [List.mem_cons, List.not_mem_nil, or_false] at hf
        have oc9 := hk100o
        rcases hf with rfl | rfl | rfl | rfl
        · rw [sp101f11, ← ox139, ← ox140]; simp only [List.mem_cons, List.not_mem_nil, or_false, not_or]; exact ⟨hI.ne sp101s hSp.1 oc9 ha (by decide) (by decide) (Or.inl (by decide)), hI.ne sp101s hSp.1 oc9 ha (by decide) (by decide) (Or.inl (by decide))⟩
        · rw [sp101f12, ← ox139, ← ox140]; simp only [List.mem_cons, List.not_mem_nil, or_false, not_or]; exact ⟨hI.ne sp101s hSp.1 oc9 ha (by decide) (by decide) (Or.inl (by decide)), hI.ne sp101s hSp.1 oc9 ha (by decide) (by decide) (Or.inl (by decide))⟩
        · rw [sp101f13, ← ox139, ← ox140]; simp only [List.mem_cons, List.not_mem_nil, or_false, not_or]; exact ⟨hI.ne sp101s hSp.1 oc9 ha (by decide) (by decide) (Or.inl (by decide)), hI.ne sp101s hSp.1 oc9 ha (by decide) (by decide) (Or.inl (by decide))⟩
        · rw [sp101f14, ← ox139, ← ox140]; simp only [List.mem_cons, List.not_mem_nil, or_false, not_or]; exact ⟨hI.ne sp101s hSp.1 oc9 ha (by decide) (by decide) (Or.inl (by decide)), hI.ne sp101s hSp.1 oc9 ha (by decide) (by decide) (Or.inl (by decide))⟩
      have q141 : (sA 47 a (0) (sA 46 a (0) (sA 38 a (z134) σ127))).2.1 35 a = (xq98 : Int) := rc_o (by decide) (rc_o (by decide) (rc_o (by decide) (rc_F F133 (Or.inl (by decide)) (by decide) (rc_F F121 (Or.inl (by decide)) (by decide) (rc_F F112 (Or.inl (by decide)) (by decide) (ra_eq))))))
      have q142 : (sA 47 a (0) (sA 46 a (0) (sA 38 a (z134) σ127))).2.1 46 a = 0 := rc_o (by decide) (ra_eq)
      have q143 : (sA 47 a (0) (sA 46 a (0) (sA 38 a (z134) σ127))).2.1 47 a = 0 := ra_eq
      exact tn_vret rfl dX5_openRoutine_129 ⟨rfl, rfl, (((w132.put (by decide) (by decide) (fo_38 (by omega))).put (by decide) (by decide) (fo_46 (by omega))).put (by decide) (by decide) (fo_47 (by omega))), ((((((((FrC.rfl.trans (FrC.sub F83 (by decide))).put (by decide) (by decide)).trans (FrC.sub F112 (by decide))).trans (FrC.sub F121 (by decide))).trans (FrC.sub F133 (by decide))).put (by decide) (by decide)).put (by decide) (by decide)).put (by decide) (by decide)), (RP.new (RT.frc hrt (show FrC T [6, 7, 8, 9, 10, 35, 38, 43, 44, 46, 47, 516, 517] σ (sA 47 a (0) (sA 46 a (0) (sA 38 a (z134) σ127))) from ((((((((FrC.rfl.trans (FrC.sub F83 (by decide))).put (by decide) (by decide)).trans (FrC.sub F112 (by decide))).trans (FrC.sub F121 (by decide))).trans (FrC.sub F133 (by decide))).put (by decide) (by decide)).put (by decide) (by decide)).put (by decide) (by decide))) (by decide) (by decide) (by decide)) (((w132.put (by decide) (by decide) (fo_38 (by omega))).put (by decide) (by decide) (fo_46 (by omega))).put (by decide) (by decide) (fo_47 (by omega))) ha (rc_o (by decide) (rc_o (by decide) (rc_o (by decide) (rc_F F133 (Or.inl (by decide)) (by decide) (rc_F F121 (Or.inl (by decide)) (by decide) (rc_F F112 (Or.inl (by decide)) (by decide) (ra_eq))))))) (by rw [show (sA 47 a (0) (sA 46 a (0) (sA 38 a (z134) σ127))).2.1 6 xq98 = σ103.2.1 6 xq98 from rc_o (by decide) (rc_o (by decide) (rc_o (by decide) (rc_F F133 (Or.inl (by decide)) (by decide) (rc_F F121 (Or.inl (by decide)) (by decide) (rfl)))))]; omega)), RDX.cq w136r (by rw [uC2c]; unfold ifN; rw [ifP_t (show 6 ≤ cx.rn by omega), ifP_f (fun q => absurd (w136q.mpr q) (by omega)), g74pl]), ⟨xq98, sp101r, q141, ⟨(show (sA 47 a (0) (sA 46 a (0) (sA 38 a (z134) σ127))).2.1 6 xq98 = σ103.2.1 6 xq98 from rc_o (by decide) (rc_o (by decide) (rc_o (by decide) (rc_F F133 (Or.inl (by decide)) (by decide) (rc_F F121 (Or.inl (by decide)) (by decide) (rfl)))))).trans f106, (show (sA 47 a (0) (sA 46 a (0) (sA 38 a (z134) σ127))).2.1 7 xq98 = σ103.2.1 7 xq98 from rc_o (by decide) (rc_o (by decide) (rc_o (by decide) (rc_F F133 (Or.inl (by decide)) (by decide) (rc_F F121 (Or.inl (by decide)) (by decide) (rfl)))))).trans f107, q142, q143⟩, sp101X, sp101C⟩⟩
  · refine tn_aload_n dX5_openRoutine_9 rfl 0 rfl ?_
    refine tn_iconst dX5_openRoutine_10 ?_
    refine tn_aload_n dX5_openRoutine_11 rfl 0 rfl ?_
    obtain ⟨xq144, hx145, hk146⟩ : ∃ x : Nat, σ.2.1 33 a = (x : Int) ∧ (T x).1 = 39 := wf_33 hw ha
    have hk146o : OB T xq144 9 := ⟨by omega, by rw [hk146]; rfl, by omega⟩
    refine tn_getR (ci := 5) (i := 0) (n := 33) (x := xq144) dX5_openRoutine_12 rfl lay_5 (by decide) fl5_12 ha rfl rfl (hx145) ?_
    refine tn_getI (ci := 9) (i := 6) (n := 87) (t := σ.2.1 87 xq144) dX5_openRoutine_15 rfl lay_9 (by decide) fl5_74 hk146o rfl rfl (rfl) ?_
    have g148 : ((-2147483648 : Int) ≤ σ.2.1 87 xq144 ∧ σ.2.1 87 xq144 ≤ 2147483647) := wf_87 hw hk146o
    have g148pl : σ.2.1 87 xq144 = (tkS Sx jx).1 := (rfl).symm.trans ((hf0).pl (hx145))
    refine tn_callV (M := m_X5_openRoutine) (pc := 18) (ix := 113) (ci := 5) (M' := m_X5_note) (As := [.int (iI 2), .int (iI (σ.2.1 87 xq144))]) (rest := []) dX5_openRoutine_18 ok_X5_note im_X5_note se_X5_note ml5_113 np_X5_note rfl rfl ha rfl (Nat.le_of_ble_eq_true rfl) (Nat.le_of_ble_eq_true rfl) rfl (k_X5_note_m (d + 1) (T := T) (σ := σ) (a := a) (f := 2) (p := σ.2.1 87 xq144) ha (by decide) (by omega) hw ) (fun r149 T151 σ150 gt152 hp => ?_)
    obtain ⟨rfl, rfl, w156, F157, f153, f154⟩ := hp
    clear gt152
    have fx158 : RD0 σ150 a Sx nx jx (fpC (cntN 2 (σ.2.1 87 xq144) (cx).fp) (cx)) := RD0.nt hf0 hw ha F157 f153
    show Tn _ _ 21 T σ150 [(0, .ref a), (1, .int (iI k))] [] _
    refine tn_aload_n dX5_openRoutine_21 rfl 0 rfl ?_
    refine tn_getI (ci := 5) (i := 5) (n := 38) (t := σ.2.1 38 a) dX5_openRoutine_22 rfl lay_5 (by decide) fl5_58 ha rfl rfl (rc_F F157 (Or.inl (by decide)) (by decide) (rfl)) ?_
    have g159 : ((0 : Int) ≤ σ.2.1 38 a ∧ σ.2.1 38 a ≤ 256) := wf_38 hw ha
    refine tn_bipush dX5_openRoutine_25 (by decide) ?_
    refine tn_icmp_lt (tgt := 42) dX5_openRoutine_27 (by decide) ⟨by omega, by omega⟩ ⟨by decide, by decide⟩ (fun h160 => ?_) (fun h160 => ?_)
    · obtain ⟨xq161, hx162, hk163, hl164⟩ : ∃ x : Nat, σ.2.1 36 a = (x : Int) ∧ AR T x 16 256 256 := wf_36 hw ha
      have hk163i : IA T xq161 := by unfold IA; omega
      have e38165 : σ.2.1 38 a = (fpC (cntN 2 (σ.2.1 87 xq144) (cx).fp) (cx)).rn := (rc_F F157 (Or.inl (by decide)) (by decide) (rfl)).symm.trans (fx158).2.1.1.2.2.1
      have e38165c : (fpC (cntN 2 (σ.2.1 87 xq144) (cx).fp) (cx)).rn = cx.rn := rfl
      refine tn_iconst dX5_openRoutine_42 ?_
      refine tn_aload_n dX5_openRoutine_43 rfl 0 rfl ?_
      refine tn_getI (ci := 5) (i := 5) (n := 38) (t := σ.2.1 38 a) dX5_openRoutine_44 rfl lay_5 (by decide) fl5_58 ha rfl rfl (rc_F F157 (Or.inl (by decide)) (by decide) (rfl)) ?_
      refine tn_aload_n dX5_openRoutine_47 rfl 0 rfl ?_
      obtain ⟨xq166, hx167, hk168, hl169⟩ : ∃ x : Nat, σ.2.1 34 a = (x : Int) ∧ AR T x 4 7 7 := wf_34 hw ha
      have hk168i : (T xq166).1 = 4 ∨ (T xq166).1 = 5 := by omega
      refine tn_getR (ci := 5) (i := 1) (n := 34) (x := xq166) dX5_openRoutine_48 rfl lay_5 (by decide) fl5_20 ha rfl rfl (rc_F F157 (Or.inl (by decide)) (by decide) (hx167)) ?_
      refine tn_alenX dX5_openRoutine_51 (by have q9 := hk168i; omega) ?_
      refine tn_iconst dX5_openRoutine_52 ?_
      refine tn_isub dX5_openRoutine_53 ?_
      refine tn_mmin (x := σ.2.1 38 a) (y := (((T xq166).2 : Int)) - 1) dX5_openRoutine_54 mlm5_117 stM_min iniM cdM_min (by omega) (Nat.le_of_ble_eq_true rfl) ⟨by omega, by omega⟩ ⟨by omega, by omega⟩ (fun z170 g171 => ?_)
      refine tn_mmax (x := 0) (y := z170) dX5_openRoutine_57 mlm5_123 stM_max iniM cdM_max (by omega) (Nat.le_of_ble_eq_true rfl) ⟨by omega, by omega⟩ ⟨by omega, by omega⟩ (fun z172 g173 => ?_)
      refine tn_istore_n (L' := [(2, .int (iI z172)), (0, .ref a), (1, .int (iI k))]) dX5_openRoutine_60 rfl (by decide) rfl ?_
      refine tn_aload_n dX5_openRoutine_61 rfl 1 rfl ?_
      refine tn_aload_n dX5_openRoutine_62 rfl 1 rfl ?_
      refine tn_getR (ci := 5) (i := 1) (n := 34) (x := xq166) dX5_openRoutine_63 rfl lay_5 (by decide) fl5_20 ha rfl rfl (rc_F F157 (Or.inl (by decide)) (by decide) (hx167)) ?_
      refine tn_iload_n dX5_openRoutine_66 rfl 0 rfl ?_
      obtain ⟨xq174, hx175, hk176⟩ := (w156).2.2.2.1.1 xq166 hk168 (z172) (by omega) (by omega)
      refine tn_aald (z := z172) (x := xq174) dX5_openRoutine_67 hk168i (by omega) (by omega) (by omega) hx175 ?_
      have hk176o : OB T xq174 1 := ⟨by omega, by rw [hk176]; rfl, by omega⟩
      have sp177c : CHX [(43, a), (44, a)] [] [] σ σ150 := ((CHX.rfl (σ := σ) (ks := [(43, a), (44, a)]) (rs := []) (ls := [])).trans f154)
      have sp177a : adN σ 34 a = xq166 := adN_of ((sp177c.f (n := 34) (a := a) (by decide) (by simp)).symm.trans (show σ150.2.1 34 a = (xq166 : Int) from rc_F F157 (Or.inl (by decide)) (by decide) (hx167)))
      have sp177i : z172 = (if cx.rn < 6 then cx.rn else 6) := by split <;> omega
      have sp177r : σ.2.1 (1000 + adN σ 34 a) (if cx.rn < 6 then cx.rn else 6) = (xq174 : Int) := by rw [sp177a, ← sp177i, ← sp177c.r (by simp)]; exact hx175
      have sp177s : Sj xq174 := by obtain ⟨e9, w1, w2, w3⟩ := hSp.2 (if cx.rn < 6 then cx.rn else 6) (by split <;> omega) (by split <;> omega); rw [sp177r] at w1; rw [show xq174 = e9 by omega]; exact w2
      refine tn_putV (ci := 5) (i := 2) (n := 35) (r := true) (v := (xq174 : Int)) tyX5 tyX5_ok nmX5 dX5_openRoutine_68 rfl lay_5 (by decide) fl5_47 rfl (tyX5_ok 2 (by decide)) (vl_ref rfl).symm rfl rfl ha rfl rfl ?_
      refine tn_aload_n dX5_openRoutine_71 rfl 1 rfl ?_
      refine tn_getR (ci := 5) (i := 2) (n := 35) (x := xq174) dX5_openRoutine_72 rfl lay_5 (by decide) fl5_47 ha rfl rfl (ra_eq) ?_
      refine tn_iload_n dX5_openRoutine_75 rfl 0 rfl ?_
      have sp177e11 : adN (sA 35 a ((xq174 : Int)) σ150) 11 xq174 = adN σ 11 xq174 := by unfold adN; rw [show (sA 35 a ((xq174 : Int)) σ150).2.1 11 xq174 = σ.2.1 11 xq174 from rc_o (by decide) (rc_F F157 (Or.inl (by decide)) (by decide) (rfl))]
      have sp177e12 : adN (sA 35 a ((xq174 : Int)) σ150) 12 xq174 = adN σ 12 xq174 := by unfold adN; rw [show (sA 35 a ((xq174 : Int)) σ150).2.1 12 xq174 = σ.2.1 12 xq174 from rc_o (by decide) (rc_F F157 (Or.inl (by decide)) (by decide) (rfl))]
      have sp177e13 : adN (sA 35 a ((xq174 : Int)) σ150) 13 xq174 = adN σ 13 xq174 := by unfold adN; rw [show (sA 35 a ((xq174 : Int)) σ150).2.1 13 xq174 = σ.2.1 13 xq174 from rc_o (by decide) (rc_F F157 (Or.inl (by decide)) (by decide) (rfl))]
      have sp177e14 : adN (sA 35 a ((xq174 : Int)) σ150) 14 xq174 = adN σ 14 xq174 := by unfold adN; rw [show (sA 35 a ((xq174 : Int)) σ150).2.1 14 xq174 = σ.2.1 14 xq174 from rc_o (by decide) (rc_F F157 (Or.inl (by decide)) (by decide) (rfl))]
      refine tn_callV (M := m_X5_openRoutine) (pc := 76) (ix := 126) (ci := 1) (M' := m_X1_empty) (As := [.int (iI z172)]) (rest := []) dX5_openRoutine_76 ok_X1_empty im_X1_empty se_X1_empty ml5_126 np_X1_empty rfl rfl hk176o rfl (Nat.le_of_ble_eq_true rfl) (Nat.le_of_ble_eq_true rfl) rfl (k_empty_c (d) (T := T) (σ := (sA 35 a ((xq174 : Int)) σ150)) (a := xq174) (r := z172) hk176o hk176 (by omega) (w156.put (by decide) (by decide) (fo_35 ⟨_, rfl, hk176⟩)) (by rw [sp177e11, sp177e12, sp177e13, sp177e14]; exact hI.d4 sp177s hk176o)) (fun r178 T180 σ179 gt181 hp => ?_)
      obtain ⟨rfl, rfl, w187, F188, f182, f183, f184, f185⟩ := hp
      clear gt181
      have fx189 : RD0 σ179 a Sx nx jx (fpC (cntN 2 (σ.2.1 87 xq144) (cx).fp) (cx)) := RD0.fc (fx158.pt (by decide) (by decide)) (w156.put (by decide) (by decide) (fo_35 ⟨_, rfl, hk176⟩)) ha F188 (by decide) (by decide)
      have sp177E := f184
      rw [sp177e11, sp177e12, sp177e13, sp177e14] at sp177E
      show Tn _ _ 79 T σ179 [(2, .int (iI z172)), (0, .ref a), (1, .int (iI k))] [] _
      refine tn_aload_n dX5_openRoutine_79 rfl 1 rfl ?_
      refine tn_getR (ci := 5) (i := 3) (n := 36) (x := xq161) dX5_openRoutine_80 rfl lay_5 (by decide) fl5_24 ha rfl rfl (rc_F F188 (Or.inl (by decide)) (by decide) (rc_o (by decide) (rc_F F157 (Or.inl (by decide)) (by decide) (hx162)))) ?_
      refine tn_aload_n dX5_openRoutine_83 rfl 1 rfl ?_
      refine tn_getI (ci := 5) (i := 5) (n := 38) (t := σ.2.1 38 a) dX5_openRoutine_84 rfl lay_5 (by decide) fl5_58 ha rfl rfl (rc_F F188 (Or.inl (by decide)) (by decide) (rc_o (by decide) (rc_F F157 (Or.inl (by decide)) (by decide) (rfl)))) ?_
      refine tn_iload_n dX5_openRoutine_87 rfl 2 rfl ?_
      refine tn_callSN (M := m_X5_openRoutine) (pc := 88) (ix := 129) (M' := m_X11_put) (As := [.ref xq161, .int (iI (σ.2.1 38 a)), .int (iI k)]) (rest := []) dX5_openRoutine_88 ok_X11_put stt_X11_put nl5_129 np_X11_put rfl (Nat.le_of_ble_eq_true rfl) (Nat.le_of_ble_eq_true rfl) rfl (k_X11_put_16 (d + 1) (T := T) (σ := σ179) (x := xq161) (i := σ.2.1 38 a) (y := k) hk163i (by omega) hk163 (by omega) (by omega) w187 ) (fun r190 T192 σ191 gt193 hp => ?_)
      obtain ⟨rfl, rfl, w196, F197, f194⟩ := hp
      clear gt193
      show Tn _ _ 91 T σ191 [(2, .int (iI z172)), (0, .ref a), (1, .int (iI k))] [] _
      refine tn_aload_n dX5_openRoutine_91 rfl 1 rfl ?_
      obtain ⟨xq198, hx199, hk200, hl201⟩ : ∃ x : Nat, σ.2.1 37 a = (x : Int) ∧ AR T x 17 256 256 := wf_37 hw ha
      have hk200i : IA T xq198 := by unfold IA; omega
      refine tn_getR (ci := 5) (i := 4) (n := 37) (x := xq198) dX5_openRoutine_92 rfl lay_5 (by decide) fl5_28 ha rfl rfl (rc_F F197 (Or.inl (by decide)) (by decide) (rc_F F188 (Or.inl (by decide)) (by decide) (rc_o (by decide) (rc_F F157 (Or.inl (by decide)) (by decide) (hx199))))) ?_
      refine tn_aload_n dX5_openRoutine_95 rfl 1 rfl ?_
      refine tn_getI (ci := 5) (i := 5) (n := 38) (t := σ.2.1 38 a) dX5_openRoutine_96 rfl lay_5 (by decide) fl5_58 ha rfl rfl (rc_F F197 (Or.inl (by decide)) (by decide) (rc_F F188 (Or.inl (by decide)) (by decide) (rc_o (by decide) (rc_F F157 (Or.inl (by decide)) (by decide) (rfl))))) ?_
      refine tn_iconst dX5_openRoutine_99 ?_
      refine tn_callSN (M := m_X5_openRoutine) (pc := 100) (ix := 129) (M' := m_X11_put) (As := [.ref xq198, .int (iI (σ.2.1 38 a)), .int (iI 0)]) (rest := []) dX5_openRoutine_100 ok_X11_put stt_X11_put nl5_129 np_X11_put rfl (Nat.le_of_ble_eq_true rfl) (Nat.le_of_ble_eq_true rfl) rfl (k_X11_put_17 (d + 1) (T := T) (σ := σ191) (x := xq198) (i := σ.2.1 38 a) (y := 0) hk200i (by omega) hk200 (by omega) (by decide) w196 ) (fun r202 T204 σ203 gt205 hp => ?_)
      obtain ⟨rfl, rfl, w208, F209, f206⟩ := hp
      clear gt205
      show Tn _ _ 103 T σ203 [(2, .int (iI z172)), (0, .ref a), (1, .int (iI k))] [] _
      refine tn_aload_n dX5_openRoutine_103 rfl 1 rfl ?_
      refine tn_aload_n dX5_openRoutine_104 rfl 1 rfl ?_
      refine tn_getI (ci := 5) (i := 5) (n := 38) (t := σ.2.1 38 a) dX5_openRoutine_105 rfl lay_5 (by decide) fl5_58 ha rfl rfl (rc_F F209 (Or.inl (by decide)) (by decide) (rc_F F197 (Or.inl (by decide)) (by decide) (rc_F F188 (Or.inl (by decide)) (by decide) (rc_o (by decide) (rc_F F157 (Or.inl (by decide)) (by decide) (rfl)))))) ?_
      refine tn_iconst dX5_openRoutine_108 ?_
      refine tn_iadd dX5_openRoutine_109 ?_
      refine tn_sipush dX5_openRoutine_110 (by decide) ?_
      refine tn_mmin (x := (σ.2.1 38 a) + 1) (y := 256) dX5_openRoutine_113 mlm5_117 stM_min iniM cdM_min (by omega) (Nat.le_of_ble_eq_true rfl) ⟨by omega, by omega⟩ ⟨by omega, by omega⟩ (fun z210 g211 => ?_)
      refine tn_putV (ci := 5) (i := 5) (n := 38) (r := false) (v := z210) tyX5 tyX5_ok nmX5 dX5_openRoutine_116 rfl lay_5 (by decide) fl5_58 rfl (tyX5_ok 5 (by decide)) rfl rfl rfl ha rfl rfl ?_
      refine tn_aload_n dX5_openRoutine_119 rfl 1 rfl ?_
      refine tn_iconst dX5_openRoutine_120 ?_
      refine tn_putV (ci := 5) (i := 13) (n := 46) (r := false) (v := 0) tyX5 tyX5_ok nmX5 dX5_openRoutine_121 rfl lay_5 (by decide) fl5_133 rfl (tyX5_ok 13 (by decide)) rfl rfl rfl ha rfl rfl ?_
      refine tn_aload_n dX5_openRoutine_124 rfl 1 rfl ?_
      refine tn_iconst dX5_openRoutine_125 ?_
      refine tn_putV (ci := 5) (i := 14) (n := 47) (r := false) (v := 0) tyX5 tyX5_ok nmX5 dX5_openRoutine_126 rfl lay_5 (by decide) fl5_136 rfl (tyX5_ok 14 (by decide)) rfl rfl rfl ha rfl rfl ?_
      have w212n : xq161 ≠ xq198 := fun e => by have q9 := hk163; rw [e] at q9; have w9 := hk200; omega
      have q213 : (sA 47 a (0) (sA 46 a (0) (sA 38 a (z210) σ203))).2.1 38 a = z210 := rc_o (by decide) (rc_o (by decide) (ra_eq))
      have q214 : (sA 47 a (0) (sA 46 a (0) (sA 38 a (z210) σ203))).2.1 35 a = (xq174 : Int) := rc_o (by decide) (rc_o (by decide) (rc_o (by decide) (rc_F F209 (Or.inl (by decide)) (by decide) (rc_F F197 (Or.inl (by decide)) (by decide) (rc_F F188 (Or.inl (by decide)) (by decide) (ra_eq))))))
      have w212o6 : σ179.2.1 (1000 + xq161) = σ150.2.1 (1000 + xq161) := by rw [F188.2 xq161 (by rw [hk163]; unfold HT; omega) (by rw [hk163]; decide), sA_k (by omega)]
      have w212o7 : σ179.2.1 (1000 + xq198) = σ150.2.1 (1000 + xq198) := by rw [F188.2 xq198 (by rw [hk200]; unfold HT; omega) (by rw [hk200]; decide), sA_k (by omega)]
      have w212a : ∀ x : Nat, σ150.2.1 36 a = (x : Int) → ∀ i, (sA 47 a (0) (sA 46 a (0) (sA 38 a (z210) σ203))).2.1 (1000 + x) i = if i = (fpC (cntN 2 (σ.2.1 87 xq144) (cx).fp) (cx)).rn then k else σ150.2.1 (1000 + x) i := fun y hy i => by
          have e : y = xq161 := by rw [show σ150.2.1 36 = σ.2.1 36 from (F157.1 36 (Or.inl (by decide)) (by decide))] at hy; omega
          rw [e, sA_k (by omega), sA_k (by omega), sA_k (by omega), f206, if_pos ⟨by omega, by omega⟩, sA_k (by omega), f194, if_pos ⟨by omega, by omega⟩, sA_at, e38165, w212o6]
      have w212b : ∀ x : Nat, σ150.2.1 37 a = (x : Int) → ∀ i, (sA 47 a (0) (sA 46 a (0) (sA 38 a (z210) σ203))).2.1 (1000 + x) i = if i = (fpC (cntN 2 (σ.2.1 87 xq144) (cx).fp) (cx)).rn then 0 else σ150.2.1 (1000 + x) i := fun y hy i => by
          have e : y = xq198 := by rw [show σ150.2.1 37 = σ.2.1 37 from (F157.1 37 (Or.inl (by decide)) (by decide))] at hy; omega
          rw [e, sA_k (by omega), sA_k (by omega), sA_k (by omega), f206, if_pos ⟨by omega, by omega⟩, sA_at, e38165, show σ191.2.1 (1000 + xq198) = σ150.2.1 (1000 + xq198) by rw [f194, if_pos ⟨by omega, by omega⟩, sA_k (by omega), w212o7]]
      have w212r : RDX (sA 47 a (0) (sA 46 a (0) (sA 38 a (z210) σ203))) a Sx nx jx (rnC wx (fpC (cntN 2 (σ.2.1 87 xq144) (cx).fp) (cx))) 0 := RD0.op (d := xq174) fx158 w156 ha (show FrC T [6, 7, 8, 9, 10, 35, 38, 46, 47, 516, 517] σ150 (sA 47 a (0) (sA 46 a (0) (sA 38 a (z210) σ203))) from (((((((FrC.rfl.put (by decide) (by decide)).trans (FrC.sub F188 (by decide))).trans (FrC.sub F197 (by decide))).trans (FrC.sub F209 (by decide))).put (by decide) (by decide)).put (by decide) (by decide)).put (by decide) (by decide))) (by rw [q213]; omega) q214 ((show (sA 47 a (0) (sA 46 a (0) (sA 38 a (z210) σ203))).2.1 6 xq174 = σ179.2.1 6 xq174 from rc_o (by decide) (rc_o (by decide) (rc_o (by decide) (rc_F F209 (Or.inl (by decide)) (by decide) (rc_F F197 (Or.inl (by decide)) (by decide) (rfl)))))).trans f182) ((show (sA 47 a (0) (sA 46 a (0) (sA 38 a (z210) σ203))).2.1 7 xq174 = σ179.2.1 7 xq174 from rc_o (by decide) (rc_o (by decide) (rc_o (by decide) (rc_F F209 (Or.inl (by decide)) (by decide) (rc_F F197 (Or.inl (by decide)) (by decide) (rfl)))))).trans f183) hkw w212a w212b hpo
      have w212q := ROQ.fd f6 hf0.2.1 hw ha hkw
      have ox215 : adN σ 36 a = xq161 := adN_of ((show (sA 47 a (0) (sA 46 a (0) (sA 38 a (z210) σ203))).2.1 36 a = σ.2.1 36 a from rc_o (by decide) (rc_o (by decide) (rc_o (by decide) (rc_F F209 (Or.inl (by decide)) (by decide) (rc_F F197 (Or.inl (by decide)) (by decide) (rc_F F188 (Or.inl (by decide)) (by decide) (rc_o (by decide) (rc_F F157 (Or.inl (by decide)) (by decide) (rfl))))))))).symm.trans (show (sA 47 a (0) (sA 46 a (0) (sA 38 a (z210) σ203))).2.1 36 a = (xq161 : Int) from rc_o (by decide) (rc_o (by decide) (rc_o (by decide) (rc_F F209 (Or.inl (by decide)) (by decide) (rc_F F197 (Or.inl (by decide)) (by decide) (rc_F F188 (Or.inl (by decide)) (by decide) (rc_o (by decide) (rc_F F157 (Or.inl (by decide)) (by decide) (hx162))))))))))
      have ox216 : adN σ 37 a = xq198 := adN_of ((show (sA 47 a (0) (sA 46 a (0) (sA 38 a (z210) σ203))).2.1 37 a = σ.2.1 37 a from rc_o (by decide) (rc_o (by decide) (rc_o (by decide) (rc_F F209 (Or.inl (by decide)) (by decide) (rc_F F197 (Or.inl (by decide)) (by decide) (rc_F F188 (Or.inl (by decide)) (by decide) (rc_o (by decide) (rc_F F157 (Or.inl (by decide)) (by decide) (rfl))))))))).symm.trans (show (sA 47 a (0) (sA 46 a (0) (sA 38 a (z210) σ203))).2.1 37 a = (xq198 : Int) from rc_o (by decide) (rc_o (by decide) (rc_o (by decide) (rc_F F209 (Or.inl (by decide)) (by decide) (rc_F F197 (Or.inl (by decide)) (by decide) (rc_F F188 (Or.inl (by decide)) (by decide) (rc_o (by decide) (rc_F F157 (Or.inl (by decide)) (by decide) (hx199))))))))))
      have sp177C : CHX (OPKS a xq174) (OPRS σ a xq174) [] σ (sA 47 a (0) (sA 46 a (0) (sA 38 a (z210) σ203))) := ((((CHX.pq (CHX.pq ((((CHX.rfl (σ := σ) (ks := OPKS a xq174) (rs := OPRS σ a xq174) (ls := [])).trans (CHX.sub f154 (by simp) (by simp) (by simp))).fld (by simp) (by decide)).trans (CHX.sub sp177E (by simp) (by simp) (by simp))) f194 (by rw [← ox215]; simp)) f206 (by rw [← ox216]; simp)).fld (by simp) (by decide)).fld (by simp) (by decide)).fld (by simp) (by decide))
      have sp177D : CHX [(38, a), (46, a), (47, a)] [xq161, xq198] [] σ179 (sA 47 a (0) (sA 46 a (0) (sA 38 a (z210) σ203))) := ((((CHX.pq (CHX.pq (CHX.rfl (σ := σ179) (ks := [(38, a), (46, a), (47, a)]) (rs := [xq161, xq198]) (ls := [])) f194 (by simp)) f206 (by simp)).fld (by simp) (by decide)).fld (by simp) (by decide)).fld (by simp) (by decide))
      have sp177f11 : adN σ179 11 xq174 = adN σ 11 xq174 := by rw [← sp177e11]; unfold adN; rw [F188.1 11 (Or.inl (by decide)) (by decide)]
      have sp177f12 : adN σ179 12 xq174 = adN σ 12 xq174 := by rw [← sp177e12]; unfold adN; rw [F188.1 12 (Or.inl (by decide)) (by decide)]
      have sp177f13 : adN σ179 13 xq174 = adN σ 13 xq174 := by rw [← sp177e13]; unfold adN; rw [F188.1 13 (Or.inl (by decide)) (by decide)]
      have sp177f14 : adN σ179 14 xq174 = adN σ 14 xq174 := by rw [← sp177e14]; unfold adN; rw [F188.1 14 (Or.inl (by decide)) (by decide)]
      have sp177X : EMC (sA 47 a (0) (sA 46 a (0) (sA 38 a (z210) σ203))) xq174 (if cx.rn < 6 then cx.rn else 6) := by
        have q9 := f185
        rw [sp177i] at q9
        refine q9.cg (fun f hf => sp177D.f ((by decide : ∀ k ∈ [8, 9, 10, 11, 12, 13, 14], k < 1000) f hf) (by simp only [List.mem_cons, List.not_mem_nil, or_false] at hf; simp; omega)) (fun f hf => sp177D.r ?_)
        simp only [List.mem_cons, List.not_mem_nil, or_false] at hf
        have oc9 := hk176o
        rcases hf with rfl | rfl | rfl | rfl
        · rw [sp177f11, ← ox215, ← ox216]; simp only [List.mem_cons, List.not_mem_nil, or_false, not_or]; exact ⟨hI.ne sp177s hSp.1 oc9 ha (by decide) (by decide) (Or.inl (by decide)), hI.ne sp177s hSp.1 oc9 ha (by decide) (by decide) (Or.inl (by decide))⟩
        · rw [sp177f12, ← ox215, ← ox216]; simp only [List.mem_cons, List.not_mem_nil, or_false, not_or]; exact ⟨hI.ne sp177s hSp.1 oc9 ha (by decide) (by decide) (Or.inl (by decide)), hI.ne sp177s hSp.1 oc9 ha (by decide) (by decide) (Or.inl (by decide))⟩
        · rw [sp177f13, ← ox215, ← ox216]; simp only [List.mem_cons, List.not_mem_nil, or_false, not_or]; exact ⟨hI.ne sp177s hSp.1 oc9 ha (by decide) (by decide) (Or.inl (by decide)), hI.ne sp177s hSp.1 oc9 ha (by decide) (by decide) (Or.inl (by decide))⟩
        · rw [sp177f14, ← ox215, ← ox216]; simp only [List.mem_cons, List.not_mem_nil, or_false, not_or]; exact ⟨hI.ne sp177s hSp.1 oc9 ha (by decide) (by decide) (Or.inl (by decide)), hI.ne sp177s hSp.1 oc9 ha (by decide) (by decide) (Or.inl (by decide))⟩
      have q217 : (sA 47 a (0) (sA 46 a (0) (sA 38 a (z210) σ203))).2.1 35 a = (xq174 : Int) := rc_o (by decide) (rc_o (by decide) (rc_o (by decide) (rc_F F209 (Or.inl (by decide)) (by decide) (rc_F F197 (Or.inl (by decide)) (by decide) (rc_F F188 (Or.inl (by decide)) (by decide) (ra_eq))))))
      have q218 : (sA 47 a (0) (sA 46 a (0) (sA 38 a (z210) σ203))).2.1 46 a = 0 := rc_o (by decide) (ra_eq)
      have q219 : (sA 47 a (0) (sA 46 a (0) (sA 38 a (z210) σ203))).2.1 47 a = 0 := ra_eq
      exact tn_vret rfl dX5_openRoutine_129 ⟨rfl, rfl, (((w208.put (by decide) (by decide) (fo_38 (by omega))).put (by decide) (by decide) (fo_46 (by omega))).put (by decide) (by decide) (fo_47 (by omega))), ((((((((FrC.rfl.trans (FrC.sub F157 (by decide))).put (by decide) (by decide)).trans (FrC.sub F188 (by decide))).trans (FrC.sub F197 (by decide))).trans (FrC.sub F209 (by decide))).put (by decide) (by decide)).put (by decide) (by decide)).put (by decide) (by decide)), (RP.new (RT.frc hrt (show FrC T [6, 7, 8, 9, 10, 35, 38, 43, 44, 46, 47, 516, 517] σ (sA 47 a (0) (sA 46 a (0) (sA 38 a (z210) σ203))) from ((((((((FrC.rfl.trans (FrC.sub F157 (by decide))).put (by decide) (by decide)).trans (FrC.sub F188 (by decide))).trans (FrC.sub F197 (by decide))).trans (FrC.sub F209 (by decide))).put (by decide) (by decide)).put (by decide) (by decide)).put (by decide) (by decide))) (by decide) (by decide) (by decide)) (((w208.put (by decide) (by decide) (fo_38 (by omega))).put (by decide) (by decide) (fo_46 (by omega))).put (by decide) (by decide) (fo_47 (by omega))) ha (rc_o (by decide) (rc_o (by decide) (rc_o (by decide) (rc_F F209 (Or.inl (by decide)) (by decide) (rc_F F197 (Or.inl (by decide)) (by decide) (rc_F F188 (Or.inl (by decide)) (by decide) (ra_eq))))))) (by rw [show (sA 47 a (0) (sA 46 a (0) (sA 38 a (z210) σ203))).2.1 6 xq174 = σ179.2.1 6 xq174 from rc_o (by decide) (rc_o (by decide) (rc_o (by decide) (rc_F F209 (Or.inl (by decide)) (by decide) (rc_F F197 (Or.inl (by decide)) (by decide) (rfl)))))]; omega)), RDX.cq w212r (by rw [uC2c]; unfold ifN; rw [ifP_f (show ¬ 6 ≤ cx.rn by omega), ifP_t (w212q.mp (by omega)), g148pl]), ⟨xq174, sp177r, q217, ⟨(show (sA 47 a (0) (sA 46 a (0) (sA 38 a (z210) σ203))).2.1 6 xq174 = σ179.2.1 6 xq174 from rc_o (by decide) (rc_o (by decide) (rc_o (by decide) (rc_F F209 (Or.inl (by decide)) (by decide) (rc_F F197 (Or.inl (by decide)) (by decide) (rfl)))))).trans f182, (show (sA 47 a (0) (sA 46 a (0) (sA 38 a (z210) σ203))).2.1 7 xq174 = σ179.2.1 7 xq174 from rc_o (by decide) (rc_o (by decide) (rc_o (by decide) (rc_F F209 (Or.inl (by decide)) (by decide) (rc_F F197 (Or.inl (by decide)) (by decide) (rfl)))))).trans f183, q218, q219⟩, sp177X, sp177C⟩⟩
    · refine tn_aload_n dX5_openRoutine_30 rfl 0 rfl ?_
      refine tn_iconst dX5_openRoutine_31 ?_
      refine tn_aload_n dX5_openRoutine_32 rfl 0 rfl ?_
      refine tn_getR (ci := 5) (i := 0) (n := 33) (x := xq144) dX5_openRoutine_33 rfl lay_5 (by decide) fl5_12 ha rfl rfl (rc_F F157 (Or.inl (by decide)) (by decide) (hx145)) ?_
      refine tn_getI (ci := 9) (i := 6) (n := 87) (t := σ.2.1 87 xq144) dX5_openRoutine_36 rfl lay_9 (by decide) fl5_74 hk146o rfl rfl (rc_F F157 (Or.inl (by decide)) (by decide) (rfl)) ?_
      refine tn_callV (M := m_X5_openRoutine) (pc := 39) (ix := 113) (ci := 5) (M' := m_X5_note) (As := [.int (iI 5), .int (iI (σ.2.1 87 xq144))]) (rest := []) dX5_openRoutine_39 ok_X5_note im_X5_note se_X5_note ml5_113 np_X5_note rfl rfl ha rfl (Nat.le_of_ble_eq_true rfl) (Nat.le_of_ble_eq_true rfl) rfl (k_X5_note_m (d + 1) (T := T) (σ := σ150) (a := a) (f := 5) (p := σ.2.1 87 xq144) ha (by decide) (by omega) w156 ) (fun r220 T222 σ221 gt223 hp => ?_)
      obtain ⟨rfl, rfl, w227, F228, f224, f225⟩ := hp
      clear gt223
      have fx229 : RD0 σ221 a Sx nx jx (fpC (cntN 5 (σ.2.1 87 xq144) (fpC (cntN 2 (σ.2.1 87 xq144) (cx).fp) (cx)).fp) (fpC (cntN 2 (σ.2.1 87 xq144) (cx).fp) (cx))) := RD0.nt fx158 w156 ha F228 f224
      show Tn _ _ 42 T σ221 [(0, .ref a), (1, .int (iI k))] [] _
      obtain ⟨xq230, hx231, hk232, hl233⟩ : ∃ x : Nat, σ.2.1 36 a = (x : Int) ∧ AR T x 16 256 256 := wf_36 hw ha
      have hk232i : IA T xq230 := by unfold IA; omega
      have e38234 : σ.2.1 38 a = (fpC (cntN 5 (σ.2.1 87 xq144) (fpC (cntN 2 (σ.2.1 87 xq144) (cx).fp) (cx)).fp) (fpC (cntN 2 (σ.2.1 87 xq144) (cx).fp) (cx))).rn := (rc_F F228 (Or.inl (by decide)) (by decide) (rc_F F157 (Or.inl (by decide)) (by decide) (rfl))).symm.trans (fx229).2.1.1.2.2.1
      have e38234c : (fpC (cntN 5 (σ.2.1 87 xq144) (fpC (cntN 2 (σ.2.1 87 xq144) (cx).fp) (cx)).fp) (fpC (cntN 2 (σ.2.1 87 xq144) (cx).fp) (cx))).rn = cx.rn := rfl
      refine tn_iconst dX5_openRoutine_42 ?_
      refine tn_aload_n dX5_openRoutine_43 rfl 0 rfl ?_
      refine tn_getI (ci := 5) (i := 5) (n := 38) (t := σ.2.1 38 a) dX5_openRoutine_44 rfl lay_5 (by decide) fl5_58 ha rfl rfl (rc_F F228 (Or.inl (by decide)) (by decide) (rc_F F157 (Or.inl (by decide)) (by decide) (rfl))) ?_
      refine tn_aload_n dX5_openRoutine_47 rfl 0 rfl ?_
      obtain ⟨xq235, hx236, hk237, hl238⟩ : ∃ x : Nat, σ.2.1 34 a = (x : Int) ∧ AR T x 4 7 7 := wf_34 hw ha
      have hk237i : (T xq235).1 = 4 ∨ (T xq235).1 = 5 := by omega
      refine tn_getR (ci := 5) (i := 1) (n := 34) (x := xq235) dX5_openRoutine_48 rfl lay_5 (by decide) fl5_20 ha rfl rfl (rc_F F228 (Or.inl (by decide)) (by decide) (rc_F F157 (Or.inl (by decide)) (by decide) (hx236))) ?_
      refine tn_alenX dX5_openRoutine_51 (by have q9 := hk237i; omega) ?_
      refine tn_iconst dX5_openRoutine_52 ?_
      refine tn_isub dX5_openRoutine_53 ?_
      refine tn_mmin (x := σ.2.1 38 a) (y := (((T xq235).2 : Int)) - 1) dX5_openRoutine_54 mlm5_117 stM_min iniM cdM_min (by omega) (Nat.le_of_ble_eq_true rfl) ⟨by omega, by omega⟩ ⟨by omega, by omega⟩ (fun z239 g240 => ?_)
      refine tn_mmax (x := 0) (y := z239) dX5_openRoutine_57 mlm5_123 stM_max iniM cdM_max (by omega) (Nat.le_of_ble_eq_true rfl) ⟨by omega, by omega⟩ ⟨by omega, by omega⟩ (fun z241 g242 => ?_)
      refine tn_istore_n (L' := [(2, .int (iI z241)), (0, .ref a), (1, .int (iI k))]) dX5_openRoutine_60 rfl (by decide) rfl ?_
      refine tn_aload_n dX5_openRoutine_61 rfl 1 rfl ?_
      refine tn_aload_n dX5_openRoutine_62 rfl 1 rfl ?_
      refine tn_getR (ci := 5) (i := 1) (n := 34) (x := xq235) dX5_openRoutine_63 rfl lay_5 (by decide) fl5_20 ha rfl rfl (rc_F F228 (Or.inl (by decide)) (by decide) (rc_F F157 (Or.inl (by decide)) (by decide) (hx236))) ?_
      refine tn_iload_n dX5_openRoutine_66 rfl 0 rfl ?_
      obtain ⟨xq243, hx244, hk245⟩ := (w227).2.2.2.1.1 xq235 hk237 (z241) (by omega) (by omega)
      refine tn_aald (z := z241) (x := xq243) dX5_openRoutine_67 hk237i (by omega) (by omega) (by omega) hx244 ?_
      have hk245o : OB T xq243 1 := ⟨by omega, by rw [hk245]; rfl, by omega⟩
      have sp246c : CHX [(43, a), (44, a)] [] [] σ σ221 := (((CHX.rfl (σ := σ) (ks := [(43, a), (44, a)]) (rs := []) (ls := [])).trans f154).trans f225)
      have sp246a : adN σ 34 a = xq235 := adN_of ((sp246c.f (n := 34) (a := a) (by decide) (by simp)).symm.trans (show σ221.2.1 34 a = (xq235 : Int) from rc_F F228 (Or.inl (by decide)) (by decide) (rc_F F157 (Or.inl (by decide)) (by decide) (hx236))))
      have sp246i : z241 = (if cx.rn < 6 then cx.rn else 6) := by split <;> omega
      have sp246r : σ.2.1 (1000 + adN σ 34 a) (if cx.rn < 6 then cx.rn else 6) = (xq243 : Int) := by rw [sp246a, ← sp246i, ← sp246c.r (by simp)]; exact hx244
      have sp246s : Sj xq243 := by obtain ⟨e9, w1, w2, w3⟩ := hSp.2 (if cx.rn < 6 then cx.rn else 6) (by split <;> omega) (by split <;> omega); rw [sp246r] at w1; rw [show xq243 = e9 by omega]; exact w2
      refine tn_putV (ci := 5) (i := 2) (n := 35) (r := true) (v := (xq243 : Int)) tyX5 tyX5_ok nmX5 dX5_openRoutine_68 rfl lay_5 (by decide) fl5_47 rfl (tyX5_ok 2 (by decide)) (vl_ref rfl).symm rfl rfl ha rfl rfl ?_
      refine tn_aload_n dX5_openRoutine_71 rfl 1 rfl ?_
      refine tn_getR (ci := 5) (i := 2) (n := 35) (x := xq243) dX5_openRoutine_72 rfl lay_5 (by decide) fl5_47 ha rfl rfl (ra_eq) ?_
      refine tn_iload_n dX5_openRoutine_75 rfl 0 rfl ?_
      have sp246e11 : adN (sA 35 a ((xq243 : Int)) σ221) 11 xq243 = adN σ 11 xq243 := by unfold adN; rw [show (sA 35 a ((xq243 : Int)) σ221).2.1 11 xq243 = σ.2.1 11 xq243 from rc_o (by decide) (rc_F F228 (Or.inl (by decide)) (by decide) (rc_F F157 (Or.inl (by decide)) (by decide) (rfl)))]
      have sp246e12 : adN (sA 35 a ((xq243 : Int)) σ221) 12 xq243 = adN σ 12 xq243 := by unfold adN; rw [show (sA 35 a ((xq243 : Int)) σ221).2.1 12 xq243 = σ.2.1 12 xq243 from rc_o (by decide) (rc_F F228 (Or.inl (by decide)) (by decide) (rc_F F157 (Or.inl (by decide)) (by decide) (rfl)))]
      have sp246e13 : adN (sA 35 a ((xq243 : Int)) σ221) 13 xq243 = adN σ 13 xq243 := by unfold adN; rw [show (sA 35 a ((xq243 : Int)) σ221).2.1 13 xq243 = σ.2.1 13 xq243 from rc_o (by decide) (rc_F F228 (Or.inl (by decide)) (by decide) (rc_F F157 (Or.inl (by decide)) (by decide) (rfl)))]
      have sp246e14 : adN (sA 35 a ((xq243 : Int)) σ221) 14 xq243 = adN σ 14 xq243 := by unfold adN; rw [show (sA 35 a ((xq243 : Int)) σ221).2.1 14 xq243 = σ.2.1 14 xq243 from rc_o (by decide) (rc_F F228 (Or.inl (by decide)) (by decide) (rc_F F157 (Or.inl (by decide)) (by decide) (rfl)))]
      refine tn_callV (M := m_X5_openRoutine) (pc := 76) (ix := 126) (ci := 1) (M' := m_X1_empty) (As := [.int (iI z241)]) (rest := []) dX5_openRoutine_76 ok_X1_empty im_X1_empty se_X1_empty ml5_126 np_X1_empty rfl rfl hk245o rfl (Nat.le_of_ble_eq_true rfl) (Nat.le_of_ble_eq_true rfl) rfl (k_empty_c (d) (T := T) (σ := (sA 35 a ((xq243 : Int)) σ221)) (a := xq243) (r := z241) hk245o hk245 (by omega) (w227.put (by decide) (by decide) (fo_35 ⟨_, rfl, hk245⟩)) (by rw [sp246e11, sp246e12, sp246e13, sp246e14]; exact hI.d4 sp246s hk245o)) (fun r247 T249 σ248 gt250 hp => ?_)
      obtain ⟨rfl, rfl, w256, F257, f251, f252, f253, f254⟩ := hp
      clear gt250
      have fx258 : RD0 σ248 a Sx nx jx (fpC (cntN 5 (σ.2.1 87 xq144) (fpC (cntN 2 (σ.2.1 87 xq144) (cx).fp) (cx)).fp) (fpC (cntN 2 (σ.2.1 87 xq144) (cx).fp) (cx))) := RD0.fc (fx229.pt (by decide) (by decide)) (w227.put (by decide) (by decide) (fo_35 ⟨_, rfl, hk245⟩)) ha F257 (by decide) (by decide)
      have sp246E := f253
      rw [sp246e11, sp246e12, sp246e13, sp246e14] at sp246E
      show Tn _ _ 79 T σ248 [(2, .int (iI z241)), (0, .ref a), (1, .int (iI k))] [] _
      refine tn_aload_n dX5_openRoutine_79 rfl 1 rfl ?_
      refine tn_getR (ci := 5) (i := 3) (n := 36) (x := xq230) dX5_openRoutine_80 rfl lay_5 (by decide) fl5_24 ha rfl rfl (rc_F F257 (Or.inl (by decide)) (by decide) (rc_o (by decide) (rc_F F228 (Or.inl (by decide)) (by decide) (rc_F F157 (Or.inl (by decide)) (by decide) (hx231))))) ?_
      refine tn_aload_n dX5_openRoutine_83 rfl 1 rfl ?_
      refine tn_getI (ci := 5) (i := 5) (n := 38) (t := σ.2.1 38 a) dX5_openRoutine_84 rfl lay_5 (by decide) fl5_58 ha rfl rfl (rc_F F257 (Or.inl (by decide)) (by decide) (rc_o (by decide) (rc_F F228 (Or.inl (by decide)) (by decide) (rc_F F157 (Or.inl (by decide)) (by decide) (rfl))))) ?_
      refine tn_iload_n dX5_openRoutine_87 rfl 2 rfl ?_
      refine tn_callSN (M := m_X5_openRoutine) (pc := 88) (ix := 129) (M' := m_X11_put) (As := [.ref xq230, .int (iI (σ.2.1 38 a)), .int (iI k)]) (rest := []) dX5_openRoutine_88 ok_X11_put stt_X11_put nl5_129 np_X11_put rfl (Nat.le_of_ble_eq_true rfl) (Nat.le_of_ble_eq_true rfl) rfl (k_X11_put_16 (d + 1) (T := T) (σ := σ248) (x := xq230) (i := σ.2.1 38 a) (y := k) hk232i (by omega) hk232 (by omega) (by omega) w256 ) (fun r259 T261 σ260 gt262 hp => ?_)
      obtain ⟨rfl, rfl, w265, F266, f263⟩ := hp
      clear gt262
      show Tn _ _ 91 T σ260 [(2, .int (iI z241)), (0, .ref a), (1, .int (iI k))] [] _
      refine tn_aload_n dX5_openRoutine_91 rfl 1 rfl ?_
      obtain ⟨xq267, hx268, hk269, hl270⟩ : ∃ x : Nat, σ.2.1 37 a = (x : Int) ∧ AR T x 17 256 256 := wf_37 hw ha
      have hk269i : IA T xq267 := by unfold IA; omega
      refine tn_getR (ci := 5) (i := 4) (n := 37) (x := xq267) dX5_openRoutine_92 rfl lay_5 (by decide) fl5_28 ha rfl rfl (rc_F F266 (Or.inl (by decide)) (by decide) (rc_F F257 (Or.inl (by decide)) (by decide) (rc_o (by decide) (rc_F F228 (Or.inl (by decide)) (by decide) (rc_F F157 (Or.inl (by decide)) (by decide) (hx268)))))) ?_
      refine tn_aload_n dX5_openRoutine_95 rfl 1 rfl ?_
      refine tn_getI (ci := 5) (i := 5) (n := 38) (t := σ.2.1 38 a) dX5_openRoutine_96 rfl lay_5 (by decide) fl5_58 ha rfl rfl (rc_F F266 (Or.inl (by decide)) (by decide) (rc_F F257 (Or.inl (by decide)) (by decide) (rc_o (by decide) (rc_F F228 (Or.inl (by decide)) (by decide) (rc_F F157 (Or.inl (by decide)) (by decide) (rfl)))))) ?_
      refine tn_iconst dX5_openRoutine_99 ?_
      refine tn_callSN (M := m_X5_openRoutine) (pc := 100) (ix := 129) (M' := m_X11_put) (As := [.ref xq267, .int (iI (σ.2.1 38 a)), .int (iI 0)]) (rest := []) dX5_openRoutine_100 ok_X11_put stt_X11_put nl5_129 np_X11_put rfl (Nat.le_of_ble_eq_true rfl) (Nat.le_of_ble_eq_true rfl) rfl (k_X11_put_17 (d + 1) (T := T) (σ := σ260) (x := xq267) (i := σ.2.1 38 a) (y := 0) hk269i (by omega) hk269 (by omega) (by decide) w265 ) (fun r271 T273 σ272 gt274 hp => ?_)
      obtain ⟨rfl, rfl, w277, F278, f275⟩ := hp
      clear gt274
      show Tn _ _ 103 T σ272 [(2, .int (iI z241)), (0, .ref a), (1, .int (iI k))] [] _
      refine tn_aload_n dX5_openRoutine_103 rfl 1 rfl ?_
      refine tn_aload_n dX5_openRoutine_104 rfl 1 rfl ?_
      refine tn_getI (ci := 5) (i := 5) (n := 38) (t := σ.2.1 38 a) dX5_openRoutine_105 rfl lay_5 (by decide) fl5_58 ha rfl rfl (rc_F F278 (Or.inl (by decide)) (by decide) (rc_F F266 (Or.inl (by decide)) (by decide) (rc_F F257 (Or.inl (by decide)) (by decide) (rc_o (by decide) (rc_F F228 (Or.inl (by decide)) (by decide) (rc_F F157 (Or.inl (by decide)) (by decide) (rfl))))))) ?_
      refine tn_iconst dX5_openRoutine_108 ?_
      refine tn_iadd dX5_openRoutine_109 ?_
      refine tn_sipush dX5_openRoutine_110 (by decide) ?_
      refine tn_mmin (x := (σ.2.1 38 a) + 1) (y := 256) dX5_openRoutine_113 mlm5_117 stM_min iniM cdM_min (by omega) (Nat.le_of_ble_eq_true rfl) ⟨by omega, by omega⟩ ⟨by omega, by omega⟩ (fun z279 g280 => ?_)
      refine tn_putV (ci := 5) (i := 5) (n := 38) (r := false) (v := z279) tyX5 tyX5_ok nmX5 dX5_openRoutine_116 rfl lay_5 (by decide) fl5_58 rfl (tyX5_ok 5 (by decide)) rfl rfl rfl ha rfl rfl ?_
      refine tn_aload_n dX5_openRoutine_119 rfl 1 rfl ?_
      refine tn_iconst dX5_openRoutine_120 ?_
      refine tn_putV (ci := 5) (i := 13) (n := 46) (r := false) (v := 0) tyX5 tyX5_ok nmX5 dX5_openRoutine_121 rfl lay_5 (by decide) fl5_133 rfl (tyX5_ok 13 (by decide)) rfl rfl rfl ha rfl rfl ?_
      refine tn_aload_n dX5_openRoutine_124 rfl 1 rfl ?_
      refine tn_iconst dX5_openRoutine_125 ?_
      refine tn_putV (ci := 5) (i := 14) (n := 47) (r := false) (v := 0) tyX5 tyX5_ok nmX5 dX5_openRoutine_126 rfl lay_5 (by decide) fl5_136 rfl (tyX5_ok 14 (by decide)) rfl rfl rfl ha rfl rfl ?_
      have w281n : xq230 ≠ xq267 := fun e => by have q9 := hk232; rw [e] at q9; have w9 := hk269; omega
      have q282 : (sA 47 a (0) (sA 46 a (0) (sA 38 a (z279) σ272))).2.1 38 a = z279 := rc_o (by decide) (rc_o (by decide) (ra_eq))
      have q283 : (sA 47 a (0) (sA 46 a (0) (sA 38 a (z279) σ272))).2.1 35 a = (xq243 : Int) := rc_o (by decide) (rc_o (by decide) (rc_o (by decide) (rc_F F278 (Or.inl (by decide)) (by decide) (rc_F F266 (Or.inl (by decide)) (by decide) (rc_F F257 (Or.inl (by decide)) (by decide) (ra_eq))))))
      have w281o6 : σ248.2.1 (1000 + xq230) = σ221.2.1 (1000 + xq230) := by rw [F257.2 xq230 (by rw [hk232]; unfold HT; omega) (by rw [hk232]; decide), sA_k (by omega)]
      have w281o7 : σ248.2.1 (1000 + xq267) = σ221.2.1 (1000 + xq267) := by rw [F257.2 xq267 (by rw [hk269]; unfold HT; omega) (by rw [hk269]; decide), sA_k (by omega)]
      have w281a : ∀ x : Nat, σ221.2.1 36 a = (x : Int) → ∀ i, (sA 47 a (0) (sA 46 a (0) (sA 38 a (z279) σ272))).2.1 (1000 + x) i = if i = (fpC (cntN 5 (σ.2.1 87 xq144) (fpC (cntN 2 (σ.2.1 87 xq144) (cx).fp) (cx)).fp) (fpC (cntN 2 (σ.2.1 87 xq144) (cx).fp) (cx))).rn then k else σ221.2.1 (1000 + x) i := fun y hy i => by
          have e : y = xq230 := by rw [show σ221.2.1 36 = σ.2.1 36 from ((F228.1 36 (Or.inl (by decide)) (by decide)).trans (F157.1 36 (Or.inl (by decide)) (by decide)))] at hy; omega
          rw [e, sA_k (by omega), sA_k (by omega), sA_k (by omega), f275, if_pos ⟨by omega, by omega⟩, sA_k (by omega), f263, if_pos ⟨by omega, by omega⟩, sA_at, e38234, w281o6]
      have w281b : ∀ x : Nat, σ221.2.1 37 a = (x : Int) → ∀ i, (sA 47 a (0) (sA 46 a (0) (sA 38 a (z279) σ272))).2.1 (1000 + x) i = if i = (fpC (cntN 5 (σ.2.1 87 xq144) (fpC (cntN 2 (σ.2.1 87 xq144) (cx).fp) (cx)).fp) (fpC (cntN 2 (σ.2.1 87 xq144) (cx).fp) (cx))).rn then 0 else σ221.2.1 (1000 + x) i := fun y hy i => by
          have e : y = xq267 := by rw [show σ221.2.1 37 = σ.2.1 37 from ((F228.1 37 (Or.inl (by decide)) (by decide)).trans (F157.1 37 (Or.inl (by decide)) (by decide)))] at hy; omega
          rw [e, sA_k (by omega), sA_k (by omega), sA_k (by omega), f275, if_pos ⟨by omega, by omega⟩, sA_at, e38234, show σ260.2.1 (1000 + xq267) = σ221.2.1 (1000 + xq267) by rw [f263, if_pos ⟨by omega, by omega⟩, sA_k (by omega), w281o7]]
      have w281r : RDX (sA 47 a (0) (sA 46 a (0) (sA 38 a (z279) σ272))) a Sx nx jx (rnC wx (fpC (cntN 5 (σ.2.1 87 xq144) (fpC (cntN 2 (σ.2.1 87 xq144) (cx).fp) (cx)).fp) (fpC (cntN 2 (σ.2.1 87 xq144) (cx).fp) (cx)))) 0 := RD0.op (d := xq243) fx229 w227 ha (show FrC T [6, 7, 8, 9, 10, 35, 38, 46, 47, 516, 517] σ221 (sA 47 a (0) (sA 46 a (0) (sA 38 a (z279) σ272))) from (((((((FrC.rfl.put (by decide) (by decide)).trans (FrC.sub F257 (by decide))).trans (FrC.sub F266 (by decide))).trans (FrC.sub F278 (by decide))).put (by decide) (by decide)).put (by decide) (by decide)).put (by decide) (by decide))) (by rw [q282]; omega) q283 ((show (sA 47 a (0) (sA 46 a (0) (sA 38 a (z279) σ272))).2.1 6 xq243 = σ248.2.1 6 xq243 from rc_o (by decide) (rc_o (by decide) (rc_o (by decide) (rc_F F278 (Or.inl (by decide)) (by decide) (rc_F F266 (Or.inl (by decide)) (by decide) (rfl)))))).trans f251) ((show (sA 47 a (0) (sA 46 a (0) (sA 38 a (z279) σ272))).2.1 7 xq243 = σ248.2.1 7 xq243 from rc_o (by decide) (rc_o (by decide) (rc_o (by decide) (rc_F F278 (Or.inl (by decide)) (by decide) (rc_F F266 (Or.inl (by decide)) (by decide) (rfl)))))).trans f252) hkw w281a w281b hpo
      have w281q := ROQ.fd f6 hf0.2.1 hw ha hkw
      have ox284 : adN σ 36 a = xq230 := adN_of ((show (sA 47 a (0) (sA 46 a (0) (sA 38 a (z279) σ272))).2.1 36 a = σ.2.1 36 a from rc_o (by decide) (rc_o (by decide) (rc_o (by decide) (rc_F F278 (Or.inl (by decide)) (by decide) (rc_F F266 (Or.inl (by decide)) (by decide) (rc_F F257 (Or.inl (by decide)) (by decide) (rc_o (by decide) (rc_F F228 (Or.inl (by decide)) (by decide) (rc_F F157 (Or.inl (by decide)) (by decide) (rfl)))))))))).symm.trans (show (sA 47 a (0) (sA 46 a (0) (sA 38 a (z279) σ272))).2.1 36 a = (xq230 : Int) from rc_o (by decide) (rc_o (by decide) (rc_o (by decide) (rc_F F278 (Or.inl (by decide)) (by decide) (rc_F F266 (Or.inl (by decide)) (by decide) (rc_F F257 (Or.inl (by decide)) (by decide) (rc_o (by decide) (rc_F F228 (Or.inl (by decide)) (by decide) (rc_F F157 (Or.inl (by decide)) (by decide) (hx231)))))))))))
      have ox285 : adN σ 37 a = xq267 := adN_of ((show (sA 47 a (0) (sA 46 a (0) (sA 38 a (z279) σ272))).2.1 37 a = σ.2.1 37 a from rc_o (by decide) (rc_o (by decide) (rc_o (by decide) (rc_F F278 (Or.inl (by decide)) (by decide) (rc_F F266 (Or.inl (by decide)) (by decide) (rc_F F257 (Or.inl (by decide)) (by decide) (rc_o (by decide) (rc_F F228 (Or.inl (by decide)) (by decide) (rc_F F157 (Or.inl (by decide)) (by decide) (rfl)))))))))).symm.trans (show (sA 47 a (0) (sA 46 a (0) (sA 38 a (z279) σ272))).2.1 37 a = (xq267 : Int) from rc_o (by decide) (rc_o (by decide) (rc_o (by decide) (rc_F F278 (Or.inl (by decide)) (by decide) (rc_F F266 (Or.inl (by decide)) (by decide) (rc_F F257 (Or.inl (by decide)) (by decide) (rc_o (by decide) (rc_F F228 (Or.inl (by decide)) (by decide) (rc_F F157 (Or.inl (by decide)) (by decide) (hx268)))))))))))
      have sp246C : CHX (OPKS a xq243) (OPRS σ a xq243) [] σ (sA 47 a (0) (sA 46 a (0) (sA 38 a (z279) σ272))) := ((((CHX.pq (CHX.pq (((((CHX.rfl (σ := σ) (ks := OPKS a xq243) (rs := OPRS σ a xq243) (ls := [])).trans (CHX.sub f154 (by simp) (by simp) (by simp))).trans (CHX.sub f225 (by simp) (by simp) (by simp))).fld (by simp) (by decide)).trans (CHX.sub sp246E (by simp) (by simp) (by simp))) f263 (by rw [← ox284]; simp)) f275 (by rw [← ox285]; simp)).fld (by simp) (by decide)).fld (by simp) (by decide)).fld (by simp) (by decide))
      have sp246D : CHX [(38, a), (46, a), (47, a)] [xq230, xq267] [] σ248 (sA 47 a (0) (sA 46 a (0) (sA 38 a (z279) σ272))) := ((((CHX.pq (CHX.pq (CHX.rfl (σ := σ248) (ks := [(38, a), (46, a), (47, a)]) (rs := [xq230, xq267]) (ls := [])) f263 (by simp)) f275 (by simp)).fld (by simp) (by decide)).fld (by simp) (by decide)).fld (by simp) (by decide))
      have sp246f11 : adN σ248 11 xq243 = adN σ 11 xq243 := by rw [← sp246e11]; unfold adN; rw [F257.1 11 (Or.inl (by decide)) (by decide)]
      have sp246f12 : adN σ248 12 xq243 = adN σ 12 xq243 := by rw [← sp246e12]; unfold adN; rw [F257.1 12 (Or.inl (by decide)) (by decide)]
      have sp246f13 : adN σ248 13 xq243 = adN σ 13 xq243 := by rw [← sp246e13]; unfold adN; rw [F257.1 13 (Or.inl (by decide)) (by decide)]
      have sp246f14 : adN σ248 14 xq243 = adN σ 14 xq243 := by rw [← sp246e14]; unfold adN; rw [F257.1 14 (Or.inl (by decide)) (by decide)]
      have sp246X : EMC (sA 47 a (0) (sA 46 a (0) (sA 38 a (z279) σ272))) xq243 (if cx.rn < 6 then cx.rn else 6) := by
        have q9 := f254
        rw [sp246i] at q9
        refine q9.cg (fun f hf => sp246D.f ((by decide : ∀ k ∈ [8, 9, 10, 11, 12, 13, 14], k < 1000) f hf) (by simp only [List.mem_cons, List.not_mem_nil, or_false] at hf; simp; omega)) (fun f hf => sp246D.r ?_)
        simp only [List.mem_cons, List.not_mem_nil, or_false] at hf
        have oc9 := hk245o
        rcases hf with rfl | rfl | rfl | rfl
        · rw [sp246f11, ← ox284, ← ox285]; simp only [List.mem_cons, List.not_mem_nil, or_false, not_or]; exact ⟨hI.ne sp246s hSp.1 oc9 ha (by decide) (by decide) (Or.inl (by decide)), hI.ne sp246s hSp.1 oc9 ha (by decide) (by decide) (Or.inl (by decide))⟩
        · rw [sp246f12, ← ox284, ← ox285]; simp only [List.mem_cons, List.not_mem_nil, or_false, not_or]; exact ⟨hI.ne sp246s hSp.1 oc9 ha (by decide) (by decide) (Or.inl (by decide)), hI.ne sp246s hSp.1 oc9 ha (by decide) (by decide) (Or.inl (by decide))⟩
        · rw [sp246f13, ← ox284, ← ox285]; simp only [List.mem_cons, List.not_mem_nil, or_false, not_or]; exact ⟨hI.ne sp246s hSp.1 oc9 ha (by decide) (by decide) (Or.inl (by decide)), hI.ne sp246s hSp.1 oc9 ha (by decide) (by decide) (Or.inl (by decide))⟩
        · rw [sp246f14, ← ox284, ← ox285]; simp only [List.mem_cons, List.not_mem_nil, or_false, not_or]; exact ⟨hI.ne sp246s hSp.1 oc9 ha (by decide) (by decide) (Or.inl (by decide)), hI.ne sp246s hSp.1 oc9 ha (by decide) (by decide) (Or.inl (by decide))⟩
      have q286 : (sA 47 a (0) (sA 46 a (0) (sA 38 a (z279) σ272))).2.1 35 a = (xq243 : Int) := rc_o (by decide) (rc_o (by decide) (rc_o (by decide) (rc_F F278 (Or.inl (by decide)) (by decide) (rc_F F266 (Or.inl (by decide)) (by decide) (rc_F F257 (Or.inl (by decide)) (by decide) (ra_eq))))))
      have q287 : (sA 47 a (0) (sA 46 a (0) (sA 38 a (z279) σ272))).2.1 46 a = 0 := rc_o (by decide) (ra_eq)
      have q288 : (sA 47 a (0) (sA 46 a (0) (sA 38 a (z279) σ272))).2.1 47 a = 0 := ra_eq
      exact tn_vret rfl dX5_openRoutine_129 ⟨rfl, rfl, (((w277.put (by decide) (by decide) (fo_38 (by omega))).put (by decide) (by decide) (fo_46 (by omega))).put (by decide) (by decide) (fo_47 (by omega))), (((((((((FrC.rfl.trans (FrC.sub F157 (by decide))).trans (FrC.sub F228 (by decide))).put (by decide) (by decide)).trans (FrC.sub F257 (by decide))).trans (FrC.sub F266 (by decide))).trans (FrC.sub F278 (by decide))).put (by decide) (by decide)).put (by decide) (by decide)).put (by decide) (by decide)), (RP.new (RT.frc hrt (show FrC T [6, 7, 8, 9, 10, 35, 38, 43, 44, 46, 47, 516, 517] σ (sA 47 a (0) (sA 46 a (0) (sA 38 a (z279) σ272))) from (((((((((FrC.rfl.trans (FrC.sub F157 (by decide))).trans (FrC.sub F228 (by decide))).put (by decide) (by decide)).trans (FrC.sub F257 (by decide))).trans (FrC.sub F266 (by decide))).trans (FrC.sub F278 (by decide))).put (by decide) (by decide)).put (by decide) (by decide)).put (by decide) (by decide))) (by decide) (by decide) (by decide)) (((w277.put (by decide) (by decide) (fo_38 (by omega))).put (by decide) (by decide) (fo_46 (by omega))).put (by decide) (by decide) (fo_47 (by omega))) ha (rc_o (by decide) (rc_o (by decide) (rc_o (by decide) (rc_F F278 (Or.inl (by decide)) (by decide) (rc_F F266 (Or.inl (by decide)) (by decide) (rc_F F257 (Or.inl (by decide)) (by decide) (ra_eq))))))) (by rw [show (sA 47 a (0) (sA 46 a (0) (sA 38 a (z279) σ272))).2.1 6 xq243 = σ248.2.1 6 xq243 from rc_o (by decide) (rc_o (by decide) (rc_o (by decide) (rc_F F278 (Or.inl (by decide)) (by decide) (rc_F F266 (Or.inl (by decide)) (by decide) (rfl)))))]; omega)), RDX.cq w281r (by rw [uC2c]; unfold ifN; rw [ifP_t (show 6 ≤ cx.rn by omega), ifP_t (w281q.mp (by omega)), g148pl]), ⟨xq243, sp246r, q286, ⟨(show (sA 47 a (0) (sA 46 a (0) (sA 38 a (z279) σ272))).2.1 6 xq243 = σ248.2.1 6 xq243 from rc_o (by decide) (rc_o (by decide) (rc_o (by decide) (rc_F F278 (Or.inl (by decide)) (by decide) (rc_F F266 (Or.inl (by decide)) (by decide) (rfl)))))).trans f251, (show (sA 47 a (0) (sA 46 a (0) (sA 38 a (z279) σ272))).2.1 7 xq243 = σ248.2.1 7 xq243 from rc_o (by decide) (rc_o (by decide) (rc_o (by decide) (rc_F F278 (Or.inl (by decide)) (by decide) (rc_F F266 (Or.inl (by decide)) (by decide) (rfl)))))).trans f252, q287, q288⟩, sp246X, sp246C⟩⟩
end
section
theorem cnts_0 {M : List NT} : ∀ {p : FP}, (cnts M p).1 = 0 → (∀ n, n ∈ M → n.2 ≠ 0) → p.1 = 0 := by
  induction M with
  | nil => exact fun h _ => h
  | cons n M ih =>
    intro p h g
    have z : (cntN n.2 n.1 p).1 = 0 := ih h (fun y hy => g y (List.mem_cons_of_mem _ hy))
    unfold cntN at z
    by_cases c : p.1 = 0 ∨ n.1 < p.2 ∨ (n.1 = p.2 ∧ n.2 < p.1)
    · rw [if_pos c] at z
      exact absurd z (g n (by simp))
    · rw [if_neg c] at z; exact z
section FOC
variable {c : CS} {e : EW} {es : List EW} {q : Int}
theorem uC_mn : c.rn ≤ (uC c e).rn ∧ (q < c.rn - 1 → (uC c e).rp q = c.rp q) := by
  show c.rn ≤ (sC c e).rn ∧ (q < c.rn - 1 → (sC c e).rp q = c.rp q)
  unfold sC
  by_cases h2 : e.1 = 2
  · rw [if_pos h2]
    refine ⟨?_, fun hq => ?_⟩
    · show c.rn ≤ c.rn + 1; omega
    · show up1 c.rp c.rn 0 q = c.rp q; unfold up1; rw [if_neg (by omega)]
  · rw [if_neg h2]
    by_cases h3 : e.1 = 3
    · rw [if_pos h3]
      refine ⟨?_, fun hq => ?_⟩
      · show c.rn ≤ (sCn c e.2.2.2).rn; rw [(sCn_q c e.2.2.2).1]; exact Int.le_refl _
      · show up1 c.rp (c.rn - 1) (e.2.2.1 + 1) q = c.rp q; unfold up1; rw [if_neg (by omega)]
    · rw [if_neg h3]
      by_cases h7 : e.1 = 7
      · rw [if_pos h7]; exact ⟨Int.le_refl _, fun _ => rfl⟩
      · rw [if_neg h7]
        by_cases h4 : e.1 = 4
        · rw [if_pos h4]; rw [(sCn_q c e.2.2.2).1, (sCn_q c e.2.2.2).2.2.1]; exact ⟨Int.le_refl _, fun _ => rfl⟩
        · rw [if_neg h4]
          by_cases h5 : e.1 = 5
          · rw [if_pos h5]; exact ⟨Int.le_refl _, fun _ => rfl⟩
          · rw [if_neg h5]
            by_cases h1 : e.1 = 1
            · rw [if_pos h1]; exact ⟨Int.le_refl _, fun _ => rfl⟩
            · rw [if_neg h1]; exact ⟨Int.le_refl _, fun _ => rfl⟩
theorem fo_rp (h : q < c.rn - 1) : (es.foldl uC c).rp q = c.rp q := by
  induction es generalizing c with
  | nil => rfl
  | cons e es ih =>
    have z := uC_mn (c := c) (e := e) (q := q)
    exact (ih (c := uC c e) (by have := z.1; omega)).trans (z.2 h)
theorem fo_fp0 (h : (es.foldl uC c).fp.1 = 0) : c.fp.1 = 0 := by
  induction es generalizing c with
  | nil => exact h
  | cons e es ih =>
    have z : (uC c e).fp.1 = 0 := ih h
    exact cnts_0 (M := nC c e) z (fun n hn => by have := pos_C c e n hn; omega)
theorem uC2_6 {p : Int} {w : Int64} (h : (uC c (2, p, 0, w)).fp.1 = 0) : c.rn < 6 := by
  rw [uC2] at h
  have h2 : (cnts (ifP (fndQ c w) [(p, 2)] [] ++ ifP (6 ≤ c.rn) [(p, 5)] []) c.fp).1 = 0 := h
  by_cases z : 6 ≤ c.rn
  · rw [cnts_app, ifP_t z] at h2
    have h3 : (cntN 5 p (cnts (ifP (fndQ c w) [(p, 2)] []) c.fp)).1 = 0 := h2
    exact absurd h3 (fun q => cntN_z (by decide) q)
  · omega
theorem hd_rp {p : Int} {w : Int64} (h : q < c.rn) : (([(2, p, 0, w)] ++ es).foldl uC c).rp q = c.rp q := by
  rw [List.foldl_append]
  show (es.foldl uC (uC c (2, p, 0, w))).rp q = c.rp q
  rw [fo_rp (by rw [uC2_rn]; omega), uC2]
  show up1 c.rp c.rn 0 q = c.rp q
  unfold up1
  rw [if_neg (by omega)]
theorem hd_fp {p : Int} {w : Int64} (h : (([(2, p, 0, w)] ++ es).foldl uC c).fp.1 = 0) : c.rn < 6 := by
  rw [List.foldl_append] at h
  exact uC2_6 (fo_fp0 h)
end FOC
def HFR (T : CT) (σ0 σ : MS) (a : Nat) : Prop := CHX [(43, a), (44, a)] [] [] σ0 σ ∨ ∃ (d : Nat) (s0 : MS) (i : Int), OPM σ0 s0 a d i ∧ (0 ≤ i ∧ i < 7) ∧ WT T s0 ∧ FG T (fzg s0) T σ a
def HQM (T : CT) (σ0 σ : MS) (a : Nat) (S : Int → Int) (n j : Nat) (c : CS) (v : Int) (mx : MK) : Prop := (v = 1 → ∃ (i : Nat) (es : List EW) (k : Int) (d : Nat) (s0 : MS), (j : Int) + 3 ≤ i ∧ HR9 S j i k es ∧ RDX σ a S n i (es.foldl uC c) 0 ∧ (es.foldl uC c).rn = c.rn + 1 ∧ HRM S j i k ∧ OPM σ0 s0 a d (if c.rn < 6 then c.rn else 6) ∧ WT T s0 ∧ MG T (fzg s0) T σ a mx.e35 ∧ (k ≤ 4 → σ.2.1 8 d = k) ∧ (es.foldl uC c).rp c.rn = k ∧ (∀ q, q < c.rn → (es.foldl uC c).rp q = c.rp q) ∧ ((es.foldl uC c).fp.1 = 0 → c.rn < 6)) ∧ (v = 0 → (∃ p, HF9 S j p ∧ FLC σ a p) ∧ HFR T σ0 σ a)
end
section
set_option maxHeartbeats 1000000 in
set_option maxRecDepth 20000 in
theorem k_X5_header_m (d : Nat) {T : CT} {σ : MS} {a : Nat} {Sx : Int → Int} {nx jx : Nat} {cx : CS} {Sj : Nat → Prop} {mx : MK} (ha : OB T a 5) (hw : WT T σ) (hrt : RT σ a) (hf0 : RD0 σ a Sx nx jx cx) (hpo : 5 * cx.rn ≤ (jx : Int)) (hr0 : 0 ≤ cx.rn) (hI : INJ Sj T σ) (hSp : SPK Sj T σ a) (hmx : σ.2.1 45 a = mx.ln ∧ σ.2.1 50 a = mx.pk ∧ σ.2.1 51 a = mx.pv) : Tn (d + 5) m_X5_header 0 T σ [(0, .ref a)] [] (fun ro T2 σ2 => ∃ v : Int, ro = some (.int (iI v)) ∧ T = T2 ∧ WT T2 σ2 ∧ FrC T [6, 7, 8, 9, 10, 35, 38, 43, 44, 46, 47, 84, 85, 86, 87, 516, 517, 521] σ σ2 ∧ (v = 0 ∨ v = 1) ∧ (v = 1 → RP σ2 a 4) ∧ (HQM T σ σ2 a Sx nx jx cx v mx)) := by
  have hSb := hf0.sb
  have hjn := RD0.jn hf0 hw ha
  refine tn_aload_n dX5_header_0 rfl 0 rfl ?_
  obtain ⟨xq1, hx2, hk3⟩ : ∃ x : Nat, σ.2.1 33 a = (x : Int) ∧ (T x).1 = 39 := wf_33 hw ha
  have hk3o : OB T xq1 9 := ⟨by omega, by rw [hk3]; rfl, by omega⟩
  refine tn_getR (ci := 5) (i := 0) (n := 33) (x := xq1) dX5_header_1 rfl lay_5 (by decide) fl5_12 ha rfl rfl (hx2) ?_
  refine tn_getI (ci := 9) (i := 4) (n := 85) (t := σ.2.1 85 xq1) dX5_header_4 rfl lay_9 (by decide) fl5_71 hk3o rfl rfl (rfl) ?_
  have g5 : ((-2147483648 : Int) ≤ σ.2.1 85 xq1 ∧ σ.2.1 85 xq1 ≤ 2147483647) := wf_85 hw hk3o
  have g5kd : σ.2.1 85 xq1 = ckd (tkS Sx jx) := (rfl).symm.trans ((hf0).kd (hx2))
  refine tn_sipush dX5_header_7 (by decide) ?_
  refine tn_icmp_eq (tgt := 18) dX5_header_10 (by decide) ⟨by omega, by omega⟩ ⟨by decide, by decide⟩ (fun h6 => ?_) (fun h6 => ?_)
  · have hk256 : ckd (tkS Sx jx) = 256 := by omega
    refine tn_aload_n dX5_header_18 rfl 0 rfl ?_
    refine tn_aload_n dX5_header_19 rfl 0 rfl ?_
    refine tn_getR (ci := 5) (i := 0) (n := 33) (x := xq1) dX5_header_20 rfl lay_5 (by decide) fl5_12 ha rfl rfl (hx2) ?_
    refine tn_getI (ci := 9) (i := 5) (n := 86) (t := σ.2.1 86 xq1) dX5_header_23 rfl lay_9 (by decide) fl5_96 hk3o rfl rfl (rfl) ?_
    have g7 : ((-2147483648 : Int) ≤ σ.2.1 86 xq1 ∧ σ.2.1 86 xq1 ≤ 2147483647) := wf_86 hw hk3o
    have g7ky : NKY (tkS Sx jx) (σ.2.1 86 xq1) := by rw [← show σ.2.1 86 xq1 = σ.2.1 86 xq1 from rfl]; exact (hf0).ky (hx2)
    refine tn_callV (M := m_X5_header) (pc := 26) (ix := 99) (ci := 5) (M' := m_X5_openRoutine) (As := [.int (iI (σ.2.1 86 xq1))]) (rest := []) dX5_header_26 ok_X5_openRoutine im_X5_openRoutine se_X5_openRoutine ml5_99 np_X5_openRoutine rfl rfl ha rfl (Nat.le_of_ble_eq_true rfl) (Nat.le_of_ble_eq_true rfl) rfl (k_X5_openRoutine_m (d + 1) (T := T) (σ := σ) (a := a) (k := σ.2.1 86 xq1) ha (by omega) hw hrt hf0 (g7ky.kw ((ck_nam (tkS_v hSb jx)).mp hk256).1) hpo hI hSp) (fun r8 T10 σ9 gt11 hp => ?_)
    obtain ⟨rfl, rfl, w16, F17, f12, f13, f14⟩ := hp
    clear gt11
    obtain ⟨op18, op18o⟩ := f14
    have op18c := op18o.2.2.2.2
    obtain ⟨gs, hgs⟩ : ∃ g, g = fzg σ9 := ⟨_, rfl⟩
    obtain ⟨Tg, hTg⟩ : ∃ t, t = T := ⟨_, rfl⟩
    have hgf : gs.1 5 = 0 := by rw [hgs]; rfl
    have op18m : MG Tg gs T σ9 a mx.e35 := by rw [hgs, hTg]; exact MG.nw (m := mx) op18o.2.1 op18o.2.2.1.1 op18o.2.2.1.2.2.1 op18o.2.2.1.2.2.2 op18o.2.2.2.1.1.2.1 ((CHX.f (n := 45) (a := a) op18c (by decide) (by simp)).trans hmx.1) ((CHX.f (n := 50) (a := a) op18c (by decide) (by simp)).trans hmx.2.1) ((CHX.f (n := 51) (a := a) op18c (by decide) (by simp)).trans hmx.2.2)
    show Tn _ _ 29 T σ9 [(0, .ref a)] [] _
    refine tn_aload_n dX5_header_29 rfl 0 rfl ?_
    refine tn_getR (ci := 5) (i := 0) (n := 33) (x := xq1) dX5_header_30 rfl lay_5 (by decide) fl5_12 ha rfl rfl (rc_F F17 (Or.inl (by decide)) (by decide) (hx2)) ?_
    have q23 : σ9.2.1 84 xq1 = σ.2.1 84 xq1 := rc_F F17 (Or.inl (by decide)) (by decide) (rfl)
    refine tn_callV (M := m_X5_header) (pc := 33) (ix := 93) (ci := 9) (M' := m_X9_next) (As := []) (rest := []) dX5_header_33 ok_X9_next im_X9_next se_X9_next ml5_93 np_X9_next rfl rfl hk3o rfl (Nat.le_of_ble_eq_true rfl) (Nat.le_of_ble_eq_true rfl) rfl (k_X9_next_m (d + 3) (T := T) (σ := σ9) (a := xq1) hk3o w16 (RP.tk f12 w16 ha (rc_F F17 (Or.inl (by decide)) (by decide) (hx2))) ((f13).1.tk (rc_F F17 (Or.inl (by decide)) (by decide) (hx2))) (by rw [(f13).1.kd (rc_F F17 (Or.inl (by decide)) (by decide) (hx2))]; omega)) (fun r19 T21 σ20 gt22 hp => ?_)
    obtain ⟨rfl, rfl, w30, F31, f24, f25, f26, f27, f28⟩ := hp
    clear gt22
    have fx32 : RDX σ20 a Sx nx (jx + 1) (uC cx (2, (tkS Sx jx).1, 0, (tkS Sx jx).2.2.2.2)) (0) := RDX.nx f13 w16 ha (rc_F F17 (Or.inl (by decide)) (by decide) (hx2)) F31 f27
    have rp33 : RP σ20 a (4 - 4) := RP.next4 f12 (rc_F F17 (Or.inl (by decide)) (by decide) (hx2)) F31 (by decide) (by decide) (by decide) f24 f26 (by rw [show σ9.2.1 85 xq1 = σ.2.1 85 xq1 from rc_F F17 (Or.inl (by decide)) (by decide) (rfl)]; omega)
    have rp34 : RP σ20 a (0) := RP.up rp33 (by omega)
    show Tn _ _ 36 T σ20 [(0, .ref a)] [] _
    refine tn_aload_n dX5_header_36 rfl 0 rfl ?_
    refine tn_bipush dX5_header_37 (by decide) ?_
    have mg35 : MG Tg gs T σ20 a mx.e35 := (MG.tk op18m (rc_F F17 (Or.inl (by decide)) (by decide) (hx2)) f28)
    refine tn_callV (M := m_X5_header) (pc := 39) (ix := 102) (ci := 5) (M' := m_X5_taken) (As := [.int (iI 40)]) (rest := []) dX5_header_39 ok_X5_taken im_X5_taken se_X5_taken ml5_102 np_X5_taken rfl rfl ha rfl (Nat.le_of_ble_eq_true rfl) (Nat.le_of_ble_eq_true rfl) rfl (k_X5_taken_m (d + 2) (T := T) (σ := σ20) (a := a) (s := 40) (kp := 0) (Tg := Tg) (gs := gs) (mx := mx.e35) ha (by decide) w30 (by omega) fx32 mg35 (by omega) rp34) (fun r36 T38 σ37 gt39 hp => ?_)
    obtain ⟨v44, rfl, rfl, w45, F46, f40, f41, f42, f43⟩ := hp
    clear gt39
    have rp48 : RP σ37 a (- 4 * v44) := RP.up f43 (by omega)
    show Tn _ _ 42 T σ37 [(0, .ref a)] [.int (iI v44)] _
    refine tn_if_eq (tgt := 65) dX5_header_42 (by decide) ⟨by omega, by omega⟩ (fun h49 => ?_) (fun h49 => ?_)
    · refine tn_iconst dX5_header_65 ?_
      obtain ⟨kd50, fx51, tk52⟩ := f41.2 (by omega)
      exact tn_zret (v := 0) rfl (by decide) dX5_header_66 ⟨_, rfl, rfl, w45, (((FrC.rfl.trans (FrC.sub F17 (by decide))).trans (FrC.sub F31 (by decide))).trans (FrC.sub F46 (by decide))), by omega, fun _ => (RP.up rp48 (by omega)), ⟨fun q => absurd q (by decide), fun _ => ⟨⟨_, HD.f40 hSb hk256 kd50, fx51⟩, Or.inr ⟨op18, σ9, _, op18o, ⟨by split <;> omega, by split <;> omega⟩, w16, by have q9 := (f42).1; rw [hgs, hTg] at q9; exact q9⟩⟩⟩⟩
    · refine tn_aload_n dX5_header_45 rfl 0 rfl ?_
      obtain ⟨kd54, fx53⟩ := f41.1 (by omega)
      have h856 : ∀ d : Nat, σ37.2.1 35 a = (d : Int) → σ37.2.1 8 d = 0 := fun d9 hd9 => by
        have e9 : d9 = op18 := by have z9 := op18o.2.1; have z8 : σ37.2.1 35 a = σ9.2.1 35 a := ((congrFun (F46.1 35 (Or.inl (by decide)) (by decide)) (a : Int)).trans (congrFun (F31.1 35 (Or.inl (by decide)) (by decide)) (a : Int))); omega
        rw [e9]; have z7 : σ37.2.1 8 op18 = σ9.2.1 8 op18 := ((congrFun (F46.1 8 (Or.inl (by decide)) (by decide)) (op18 : Int)).trans (congrFun (F31.1 8 (Or.inl (by decide)) (by decide)) (op18 : Int))); have z6 := op18o.2.2.2.1.1.1; omega
      refine tn_callV (M := m_X5_header) (pc := 46) (ix := 106) (ci := 5) (M' := m_X5_parameters) (As := []) (rest := []) dX5_header_46 ok_X5_parameters im_X5_parameters se_X5_parameters ml5_106 np_X5_parameters rfl rfl ha rfl (Nat.le_of_ble_eq_true rfl) (Nat.le_of_ble_eq_true rfl) rfl (k_X5_parameters_m (d) (T := T) (σ := σ37) (a := a) (kp := - 4 * v44) (Tg := Tg) (gs := gs) (mx := mx.e35) (rp := (tkS Sx jx).1) ha w45 fx53 ⟨by show 1 ≤ cx.rn + 1; omega, by show cx.rn + 1 ≤ 256; omega⟩ (by omega) f42 hgf h856 (by rw [uC2]; show up1 cx.rp cx.rn 0 (cx.rn + 1 - 1) = 0; unfold up1; rw [if_pos (by omega)]) (by omega) rp48) (fun r57 T59 σ58 gt60 hp => ?_)
      obtain ⟨v64, rfl, rfl, w65, F66, f61, f62, f63⟩ := hp
      clear gt60
      show Tn _ _ 49 T σ58 [(0, .ref a)] [.int (iI v64)] _
      refine tn_if_eq (tgt := 65) dX5_header_49 (by decide) ⟨by omega, by omega⟩ (fun h68 => ?_) (fun h68 => ?_)
      · refine tn_iconst dX5_header_65 ?_
        obtain ⟨⟨pl69, g70, fx71⟩, nf72⟩ := f62.2 (by omega)
        exact tn_zret (v := 0) rfl (by decide) dX5_header_66 ⟨_, rfl, rfl, w65, ((((FrC.rfl.trans (FrC.sub F17 (by decide))).trans (FrC.sub F31 (by decide))).trans (FrC.sub F46 (by decide))).trans (FrC.sub F66 (by decide))), by omega, fun _ => (RP.up f63 (by omega)), ⟨fun q => absurd q (by decide), fun _ => ⟨⟨_, HD.fpr hSb hk256 kd54 g70, fx71⟩, Or.inr ⟨op18, σ9, _, op18o, ⟨by split <;> omega, by split <;> omega⟩, w16, by have q9 := nf72; rw [hgs, hTg] at q9; exact q9⟩⟩⟩⟩
      · refine tn_aload_n dX5_header_52 rfl 0 rfl ?_
        refine tn_bipush dX5_header_53 (by decide) ?_
        obtain ⟨i73, es74, k75, lo76, pr77, fx78, fx78rn, ni79, mgq80, pm81, p882, p983⟩ := f62.1 (by omega)
        refine tn_callV (M := m_X5_header) (pc := 55) (ix := 102) (ci := 5) (M' := m_X5_taken) (As := [.int (iI 41)]) (rest := []) dX5_header_55 ok_X5_taken im_X5_taken se_X5_taken ml5_102 np_X5_taken rfl rfl ha rfl (Nat.le_of_ble_eq_true rfl) (Nat.le_of_ble_eq_true rfl) rfl (k_X5_taken_m (d + 2) (T := T) (σ := σ58) (a := a) (s := 41) (kp := - 4 * v44) (Tg := Tg) (gs := gs) (mx := mx.e35) ha (by decide) w65 (by omega) fx78 mgq80 (by omega) f63) (fun r84 T86 σ85 gt87 hp => ?_)
        obtain ⟨v92, rfl, rfl, w93, F94, f88, f89, f90, f91⟩ := hp
        clear gt87
        show Tn _ _ 58 T σ85 [(0, .ref a)] [.int (iI v92)] _
        refine tn_if_eq (tgt := 65) dX5_header_58 (by decide) ⟨by omega, by omega⟩ (fun h96 => ?_) (fun h96 => ?_)
        · refine tn_iconst dX5_header_65 ?_
          obtain ⟨kd97, fx98, tk99⟩ := f89.2 (by omega)
          exact tn_zret (v := 0) rfl (by decide) dX5_header_66 ⟨_, rfl, rfl, w93, (((((FrC.rfl.trans (FrC.sub F17 (by decide))).trans (FrC.sub F31 (by decide))).trans (FrC.sub F46 (by decide))).trans (FrC.sub F66 (by decide))).trans (FrC.sub F94 (by decide))), by omega, fun _ => (RP.up f91 (by omega)), ⟨fun q => absurd q (by decide), fun _ => ⟨⟨_, HD.f41 hSb hk256 kd54 pr77 kd97, fx98⟩, Or.inr ⟨op18, σ9, _, op18o, ⟨by split <;> omega, by split <;> omega⟩, w16, by have q9 := (f90).1; rw [hgs, hTg] at q9; exact q9⟩⟩⟩⟩
        · refine tn_iconst dX5_header_61 ?_
          refine tn_goto (tgt := 66) dX5_header_62 (by decide) ?_
          obtain ⟨kd101, fx100⟩ := f89.1 (by omega)
          have hq102 := HD.ok hSb hk256 kd54 pr77 kd101
          have hq102m := HRM.ok hSb hk256 kd54 pm81 kd101
          have hq102g : MG T (fzg σ9) T σ85 a mx.e35 := by have q9 := f90; rw [hgs, hTg] at q9; exact q9
          have hq1028 : k75 ≤ 4 → σ85.2.1 8 op18 = k75 := fun q9 => (((congrFun (F94.1 8 (Or.inl (by decide)) (by decide)) (op18 : Int))) : σ85.2.1 8 op18 = σ58.2.1 8 op18).trans (p882 op18 ((((congrFun (F66.1 35 (Or.inl (by decide)) (by decide)) (a : Int)).trans ((congrFun (F46.1 35 (Or.inl (by decide)) (by decide)) (a : Int)).trans (congrFun (F31.1 35 (Or.inl (by decide)) (by decide)) (a : Int)))) : σ58.2.1 35 a = σ9.2.1 35 a).trans op18o.2.1) q9)
          exact tn_zret (v := 1) rfl (by decide) dX5_header_66 ⟨_, rfl, rfl, w93, (((((FrC.rfl.trans (FrC.sub F17 (by decide))).trans (FrC.sub F31 (by decide))).trans (FrC.sub F46 (by decide))).trans (FrC.sub F66 (by decide))).trans (FrC.sub F94 (by decide))), by omega, fun _ => (RP.up f91 (by omega)), ⟨fun _ => ⟨(i73 + 1), _, k75, op18, σ9, by omega, hq102, RDX.cq fx100 (by rw [List.foldl_append]; rfl), by rw [List.foldl_append]; exact fx78rn.trans uC2_rn, hq102m, op18o, w16, hq102g, hq1028, by rw [List.foldl_append]; have z9 := p983; rw [show ([(2, (tkS Sx jx).1, 0, (tkS Sx jx).2.2.2.2)] : List EW).foldl uC cx = uC cx (2, (tkS Sx jx).1, 0, (tkS Sx jx).2.2.2.2) from rfl]; rw [uC2_rn, show cx.rn + 1 - 1 = cx.rn by omega] at z9; exact z9, fun q9 hq9 => hd_rp hq9, fun q9 => hd_fp q9⟩, fun q => absurd q (by decide)⟩⟩
  · refine tn_aload_n dX5_header_13 rfl 0 rfl ?_
    refine tn_callV (M := m_X5_header) (pc := 14) (ix := 90) (ci := 5) (M' := m_X5_refuse) (As := []) (rest := []) dX5_header_14 ok_X5_refuse im_X5_refuse se_X5_refuse ml5_90 np_X5_refuse rfl rfl ha rfl (Nat.le_of_ble_eq_true rfl) (Nat.le_of_ble_eq_true rfl) rfl (k_X5_refuse_m (d + 3) (T := T) (σ := σ) (a := a) ha hw (hf0).1) (fun r103 T105 σ104 gt106 hp => ?_)
    obtain ⟨v112, rfl, rfl, w113, F114, f107, f108, f109, f110, f111⟩ := hp
    clear gt106
    show Tn _ _ 17 T σ104 [(0, .ref a)] [.int (iI v112)] _
    exact tn_zret (v := v112) rfl (by omega) dX5_header_17 ⟨_, rfl, rfl, w113, (FrC.rfl.trans (FrC.sub F114 (by decide))), by omega, fun q => by omega, ⟨fun q => absurd q (by omega), fun _ => ⟨⟨_, HD.f30 hSb (by omega), f109⟩, Or.inl f111⟩⟩⟩
end
section
set_option maxHeartbeats 1000000 in
set_option maxRecDepth 20000 in
theorem l_X5_numberNew_h_46 (d : Nat) {T : CT} {σ0 : MS} {a : Nat} {c1 : Int} {cd : Nat} {x : Nat} {post : Option Value → CT → MS → Prop} (h_a : OB T a 5) (r_c1 : 0 ≤ c1 ∧ c1 ≤ 5000) (hw0 : WT T σ0) (hk : 0 ≤ c1 ∧ c1 ≤ 5000) (hcd : σ0.2.1 35 a = (cd : Int)) (hx : σ0.2.1 5 cd = (x : Int)) (hx_122 : ∀ (i2 : Int) (σ : MS) , (WT T σ) → (FrC T [] σ0 σ) → (3 ≤ i2 ∧ i2 ≤ 13) → (CHX [] [x] [] σ0 σ) → (3 ≤ i2 ∧ i2 ≤ 13) → Tn (d + 3) m_X5_numberNew 122 T σ [(0, .ref a), (1, .int (iI c1)), (2, .int (iI i2))] [] post) : ∀ (nq9 : Nat) (i2 : Int) (σ : MS) , (WT T σ) → (FrC T [] σ0 σ) → (3 ≤ i2 ∧ i2 ≤ 13) → (CHX [] [x] [] σ0 σ) → (3 ≤ i2 ∧ i2 ≤ 13) → (2147483700 - i2).toNat = nq9 → Tn (d + 3) m_X5_numberNew 46 T σ [(0, .ref a), (1, .int (iI c1)), (2, .int (iI i2))] [] post := by
  intro nq9
  induction nq9 using Nat.strongRecOn with
  | _ nq9 ih =>
    intro i2 σ hw hF r_i2 hC h2 hm
    refine tn_iload_n dX5_numberNew_46 rfl 2 rfl ?_
    refine tn_bipush dX5_numberNew_47 (by decide) ?_
    refine tn_icmp_ge (tgt := 122) dX5_numberNew_49 (by decide) ⟨by omega, by omega⟩ ⟨by decide, by decide⟩ (fun h1 => ?_) (fun h1 => ?_)
    · exact tn_sub [0, 1, 2] rfl (hx_122 (i2) σ hw (FrC.rfl.trans (FrC.sub hF (by decide))) (by omega) hC (by omega))
    · refine tn_aload_n dX5_numberNew_52 rfl 0 rfl ?_
      have hk4 : (T cd).1 = 31 := ob_of (wf_35 hw0 h_a) hcd
      have hk4o : OB T cd 1 := ⟨by omega, by rw [hk4]; rfl, by omega⟩
      refine tn_getR (ci := 5) (i := 2) (n := 35) (x := cd) dX5_numberNew_53 rfl lay_5 (by decide) fl5_47 h_a rfl rfl (rc_F hF (Or.inl (by decide)) (by decide) (hcd)) ?_
      refine tn_iload_n dX5_numberNew_56 rfl 1 rfl ?_
      refine tn_iload_n dX5_numberNew_57 rfl 2 rfl ?_
      refine tn_callV (M := m_X5_numberNew) (pc := 58) (ix := 164) (ci := 1) (M' := m_X1_get) (As := [.int (iI c1), .int (iI i2)]) (rest := []) dX5_numberNew_58 ok_X1_get im_X1_get se_X1_get ml5_164 np_X1_get rfl rfl hk4o rfl (Nat.le_of_ble_eq_true rfl) (Nat.le_of_ble_eq_true rfl) rfl (k_X1_get (d + 1) (T := T) (σ := σ) (a := cd) (k := c1) (c := i2) hk4o (by omega) (by omega) hw (by omega)) (fun r6 T8 σ7 gt9 hp => ?_)
      obtain ⟨v11, rfl, rfl, rfl, f10⟩ := hp
      clear gt9
      show Tn _ _ 61 T σ [(0, .ref a), (1, .int (iI c1)), (2, .int (iI i2))] [.int (iI v11)] _
      refine tn_iconst dX5_numberNew_61 ?_
      refine tn_icmp_ne (tgt := 116) dX5_numberNew_62 (by decide) ⟨by omega, by omega⟩ ⟨by decide, by decide⟩ (fun h12 => ?_) (fun h12 => ?_)
      · refine tn_iinc (q0 := 2) (L' := [(2, .int (iI (i2 + 2))), (0, .ref a), (1, .int (iI c1))]) dX5_numberNew_116 rfl (by decide) rfl ?_
        refine tn_goto (tgt := 46) dX5_numberNew_119 (by decide) ?_
        exact tn_sub [1, 2, 0] rfl (ih _ (by omega) (i2 + 2) σ hw (FrC.rfl.trans (FrC.sub hF (by decide))) (by omega) hC (by omega) rfl)
      · refine tn_aload_n dX5_numberNew_65 rfl 0 rfl ?_
        refine tn_getR (ci := 5) (i := 2) (n := 35) (x := cd) dX5_numberNew_66 rfl lay_5 (by decide) fl5_47 h_a rfl rfl (rc_F hF (Or.inl (by decide)) (by decide) (hcd)) ?_
        refine tn_iload_n dX5_numberNew_69 rfl 1 rfl ?_
        refine tn_iload_n dX5_numberNew_70 rfl 2 rfl ?_
        refine tn_iconst dX5_numberNew_71 ?_
        refine tn_iadd dX5_numberNew_72 ?_
        refine tn_callV (M := m_X5_numberNew) (pc := 73) (ix := 164) (ci := 1) (M' := m_X1_get) (As := [.int (iI c1), .int (iI (i2 + 1))]) (rest := []) dX5_numberNew_73 ok_X1_get im_X1_get se_X1_get ml5_164 np_X1_get rfl rfl hk4o rfl (Nat.le_of_ble_eq_true rfl) (Nat.le_of_ble_eq_true rfl) rfl (k_X1_get (d + 1) (T := T) (σ := σ) (a := cd) (k := c1) (c := i2 + 1) hk4o (by omega) (by omega) hw (by omega)) (fun r13 T15 σ14 gt16 hp => ?_)
        obtain ⟨v18, rfl, rfl, rfl, f17⟩ := hp
        clear gt16
        show Tn _ _ 76 T σ [(0, .ref a), (1, .int (iI c1)), (2, .int (iI i2))] [.int (iI v18)] _
        refine tn_sipush dX5_numberNew_76 (by decide) ?_
        refine tn_icmp_lt (tgt := 116) dX5_numberNew_79 (by decide) ⟨by omega, by omega⟩ ⟨by decide, by decide⟩ (fun h19 => ?_) (fun h19 => ?_)
        · refine tn_iinc (q0 := 2) (L' := [(2, .int (iI (i2 + 2))), (0, .ref a), (1, .int (iI c1))]) dX5_numberNew_116 rfl (by decide) rfl ?_
          refine tn_goto (tgt := 46) dX5_numberNew_119 (by decide) ?_
          exact tn_sub [1, 2, 0] rfl (ih _ (by omega) (i2 + 2) σ hw (FrC.rfl.trans (FrC.sub hF (by decide))) (by omega) hC (by omega) rfl)
        · refine tn_aload_n dX5_numberNew_82 rfl 0 rfl ?_
          refine tn_getR (ci := 5) (i := 2) (n := 35) (x := cd) dX5_numberNew_83 rfl lay_5 (by decide) fl5_47 h_a rfl rfl (rc_F hF (Or.inl (by decide)) (by decide) (hcd)) ?_
          refine tn_iload_n dX5_numberNew_86 rfl 1 rfl ?_
          refine tn_iload_n dX5_numberNew_87 rfl 2 rfl ?_
          refine tn_iconst dX5_numberNew_88 ?_
          refine tn_iadd dX5_numberNew_89 ?_
          refine tn_aload_n dX5_numberNew_90 rfl 0 rfl ?_
          refine tn_getR (ci := 5) (i := 2) (n := 35) (x := cd) dX5_numberNew_91 rfl lay_5 (by decide) fl5_47 h_a rfl rfl (rc_F hF (Or.inl (by decide)) (by decide) (hcd)) ?_
          refine tn_iload_n dX5_numberNew_94 rfl 1 rfl ?_
          refine tn_iload_n dX5_numberNew_95 rfl 2 rfl ?_
          refine tn_iconst dX5_numberNew_96 ?_
          refine tn_iadd dX5_numberNew_97 ?_
          refine tn_callV (M := m_X5_numberNew) (pc := 98) (ix := 164) (ci := 1) (M' := m_X1_get) (As := [.int (iI c1), .int (iI (i2 + 1))]) (rest := [.int (iI (i2 + 1)), .int (iI c1), .ref cd]) dX5_numberNew_98 ok_X1_get im_X1_get se_X1_get ml5_164 np_X1_get rfl rfl hk4o rfl (Nat.le_of_ble_eq_true rfl) (Nat.le_of_ble_eq_true rfl) rfl (k_X1_get (d + 1) (T := T) (σ := σ) (a := cd) (k := c1) (c := i2 + 1) hk4o (by omega) (by omega) hw (by omega)) (fun r20 T22 σ21 gt23 hp => ?_)
          obtain ⟨v25, rfl, rfl, rfl, f24⟩ := hp
          clear gt23
          show Tn _ _ 101 T σ [(0, .ref a), (1, .int (iI c1)), (2, .int (iI i2))] [.int (iI v25), .int (iI (i2 + 1)), .int (iI c1), .ref cd] _
          refine tn_sipush dX5_numberNew_101 (by decide) ?_
          refine tn_isub dX5_numberNew_104 ?_
          refine tn_any (fun z26 g27 => ?_)
          have g27r : -2147483648 ≤ z26 ∧ z26 ≤ 2147483647 := g27
          refine tn_aload_n dX5_numberNew_105 rfl 0 rfl ?_
          refine tn_getR (ci := 5) (i := 2) (n := 35) (x := cd) dX5_numberNew_106 rfl lay_5 (by decide) fl5_47 h_a rfl rfl (rc_F hF (Or.inl (by decide)) (by decide) (hcd)) ?_
          refine tn_getI (ci := 1) (i := 2) (n := 7) (t := σ0.2.1 7 cd) dX5_numberNew_109 rfl lay_1 (by decide) fl5_152 hk4o rfl rfl (rc_F hF (Or.inl (by decide)) (by decide) (rfl)) ?_
          have g28 : ((0 : Int) ≤ σ0.2.1 7 cd ∧ σ0.2.1 7 cd ≤ 12) := wf_7 hw0 hk4o
          refine tn_iadd dX5_numberNew_112 ?_
          refine tn_any (fun z29 g30 => ?_)
          have g30r : -2147483648 ≤ z29 ∧ z29 ≤ 2147483647 := g30
          obtain ⟨hl34, hk33a, hk33b⟩ := cel_of (wf_5 hw0 hk4o) hx
          have hk33 : (T x).1 = 13 := hk33b (by omega)
          clear hk33a hk33b
          have hk33i : IA T x := by unfold IA; omega
          refine tn_callV (M := m_X5_numberNew) (pc := 113) (ix := 167) (ci := 1) (M' := m_X1_set) (As := [.int (iI c1), .int (iI (i2 + 1)), .int (iI z29)]) (rest := []) dX5_numberNew_113 ok_X1_set im_X1_set se_X1_set ml5_167 np_X1_set rfl rfl hk4o rfl (Nat.le_of_ble_eq_true rfl) (Nat.le_of_ble_eq_true rfl) rfl (k_X1_set_h (d + 1) (T := T) (σ := σ) (a := cd) (k := c1) (c := i2 + 1) (y := z29) (x := x) hk4o (by omega) (by omega) (by omega) hw (rc_F hF (Or.inl (by decide)) (by decide) (hx)) (by omega) (by omega) (by omega)) (fun r35 T37 σ36 gt38 hp => ?_)
          obtain ⟨rfl, rfl, w41, F42, f39⟩ := hp
          clear gt38
          show Tn _ _ 116 T σ36 [(0, .ref a), (1, .int (iI c1)), (2, .int (iI i2))] [] _
          refine tn_iinc (q0 := 2) (L' := [(2, .int (iI (i2 + 2))), (0, .ref a), (1, .int (iI c1))]) dX5_numberNew_116 rfl (by decide) rfl ?_
          refine tn_goto (tgt := 46) dX5_numberNew_119 (by decide) ?_
          exact tn_sub [1, 2, 0] rfl (ih _ (by omega) (i2 + 2) σ36 w41 ((FrC.rfl.trans (FrC.sub hF (by decide))).trans (FrC.sub F42 (by decide))) (by omega) (hC.trans (CHX.sub f39 (by simp) (by simp) (by simp))) (by omega) rfl)
set_option maxHeartbeats 1000000 in
set_option maxRecDepth 20000 in
theorem k_X5_numberNew_h (d : Nat) {T : CT} {σ : MS} {a : Nat} {k : Int} {cd : Nat} {x : Nat} (ha : OB T a 5) (h_k : -2147483648 ≤ k ∧ k ≤ 2147483647) (hw : WT T σ) (hcd : σ.2.1 35 a = (cd : Int)) (hx : σ.2.1 5 cd = (x : Int)) (hk : 0 ≤ k ∧ k ≤ 5000) : Tn (d + 3) m_X5_numberNew 0 T σ [(0, .ref a), (1, .int (iI k))] [] (fun ro T2 σ2 => ro = none ∧ T = T2 ∧ WT T2 σ2 ∧ FrC T [] σ σ2 ∧ (CHX [] [x] [] σ σ2)) := by
  refine tn_aload_n dX5_numberNew_0 rfl 0 rfl ?_
  have hk3 : (T cd).1 = 31 := ob_of (wf_35 hw ha) hcd
  have hk3o : OB T cd 1 := ⟨by omega, by rw [hk3]; rfl, by omega⟩
  refine tn_getR (ci := 5) (i := 2) (n := 35) (x := cd) dX5_numberNew_1 rfl lay_5 (by decide) fl5_47 ha rfl rfl (hcd) ?_
  refine tn_iload_n dX5_numberNew_4 rfl 1 rfl ?_
  refine tn_callV (M := m_X5_numberNew) (pc := 5) (ix := 161) (ci := 1) (M' := m_X1_writtenBy) (As := [.int (iI k)]) (rest := []) dX5_numberNew_5 ok_X1_writtenBy im_X1_writtenBy se_X1_writtenBy ml5_161 np_X1_writtenBy rfl rfl hk3o rfl (Nat.le_of_ble_eq_true rfl) (Nat.le_of_ble_eq_true rfl) rfl (k_X1_writtenBy (d) (T := T) (σ := σ) (a := cd) (k := k) hk3o (by omega) hw ) (fun r5 T7 σ6 gt8 hp => ?_)
  obtain ⟨v10, rfl, rfl, rfl, f9⟩ := hp
  clear gt8
  show Tn _ _ 8 T σ [(0, .ref a), (1, .int (iI k))] [.int (iI v10)] _
  refine tn_sipush dX5_numberNew_8 (by decide) ?_
  refine tn_icmp_lt (tgt := 44) dX5_numberNew_11 (by decide) ⟨by omega, by omega⟩ ⟨by decide, by decide⟩ (fun h11 => ?_) (fun h11 => ?_)
  · refine tn_iconst dX5_numberNew_44 ?_
    refine tn_istore_n (L' := [(2, .int (iI 3)), (0, .ref a), (1, .int (iI k))]) dX5_numberNew_45 rfl (by decide) rfl ?_
    refine tn_sub [1, 2, 0] rfl (l_X5_numberNew_h_46 (d) (T := T) (σ0 := σ) (a := a) (c1 := k) (cd := cd) (x := x) ha (by omega) hw (by omega) (hcd) (hx) (fun i212 σ13 w16 F17 r18 f19 f20 => ?_) _ (3) σ hw FrC.rfl (by omega) CHX.rfl (by omega) rfl)
    show Tn _ _ 122 T σ13 [(0, .ref a), (1, .int (iI k)), (2, .int (iI i212))] [] _
    exact tn_vret rfl dX5_numberNew_122 ⟨rfl, rfl, w16, (FrC.rfl.trans (FrC.sub F17 (by decide))), (CHX.rfl.trans (CHX.sub f19 (by simp) (by simp) (by simp)))⟩
  · refine tn_aload_n dX5_numberNew_14 rfl 0 rfl ?_
    refine tn_getR (ci := 5) (i := 2) (n := 35) (x := cd) dX5_numberNew_15 rfl lay_5 (by decide) fl5_47 ha rfl rfl (hcd) ?_
    refine tn_iload_n dX5_numberNew_18 rfl 1 rfl ?_
    refine tn_iconst dX5_numberNew_19 ?_
    refine tn_aload_n dX5_numberNew_20 rfl 0 rfl ?_
    refine tn_getR (ci := 5) (i := 2) (n := 35) (x := cd) dX5_numberNew_21 rfl lay_5 (by decide) fl5_47 ha rfl rfl (hcd) ?_
    refine tn_iload_n dX5_numberNew_24 rfl 1 rfl ?_
    refine tn_iconst dX5_numberNew_25 ?_
    refine tn_callV (M := m_X5_numberNew) (pc := 26) (ix := 164) (ci := 1) (M' := m_X1_get) (As := [.int (iI k), .int (iI 1)]) (rest := [.int (iI 1), .int (iI k), .ref cd]) dX5_numberNew_26 ok_X1_get im_X1_get se_X1_get ml5_164 np_X1_get rfl rfl hk3o rfl (Nat.le_of_ble_eq_true rfl) (Nat.le_of_ble_eq_true rfl) rfl (k_X1_get (d + 1) (T := T) (σ := σ) (a := cd) (k := k) (c := 1) hk3o (by omega) (by decide) hw (by omega)) (fun r21 T23 σ22 gt24 hp => ?_)
    obtain ⟨v26, rfl, rfl, rfl, f25⟩ := hp
    clear gt24
    show Tn _ _ 29 T σ [(0, .ref a), (1, .int (iI k))] [.int (iI v26), .int (iI 1), .int (iI k), .ref cd] _
    refine tn_sipush dX5_numberNew_29 (by decide) ?_
    refine tn_isub dX5_numberNew_32 ?_
    refine tn_any (fun z27 g28 => ?_)
    have g28r : -2147483648 ≤ z27 ∧ z27 ≤ 2147483647 := g28
    refine tn_aload_n dX5_numberNew_33 rfl 0 rfl ?_
    refine tn_getR (ci := 5) (i := 2) (n := 35) (x := cd) dX5_numberNew_34 rfl lay_5 (by decide) fl5_47 ha rfl rfl (hcd) ?_
    refine tn_getI (ci := 1) (i := 2) (n := 7) (t := σ.2.1 7 cd) dX5_numberNew_37 rfl lay_1 (by decide) fl5_152 hk3o rfl rfl (rfl) ?_
    have g29 : ((0 : Int) ≤ σ.2.1 7 cd ∧ σ.2.1 7 cd ≤ 12) := wf_7 hw hk3o
    refine tn_iadd dX5_numberNew_40 ?_
    refine tn_any (fun z30 g31 => ?_)
    have g31r : -2147483648 ≤ z30 ∧ z30 ≤ 2147483647 := g31
    obtain ⟨hl35, hk34a, hk34b⟩ := cel_of (wf_5 hw hk3o) hx
    have hk34 : (T x).1 = 13 := hk34b (by omega)
    clear hk34a hk34b
    have hk34i : IA T x := by unfold IA; omega
    refine tn_callV (M := m_X5_numberNew) (pc := 41) (ix := 167) (ci := 1) (M' := m_X1_set) (As := [.int (iI k), .int (iI 1), .int (iI z30)]) (rest := []) dX5_numberNew_41 ok_X1_set im_X1_set se_X1_set ml5_167 np_X1_set rfl rfl hk3o rfl (Nat.le_of_ble_eq_true rfl) (Nat.le_of_ble_eq_true rfl) rfl (k_X1_set_h (d + 1) (T := T) (σ := σ) (a := cd) (k := k) (c := 1) (y := z30) (x := x) hk3o (by omega) (by decide) (by omega) hw (hx) (by omega) (by omega) (by omega)) (fun r36 T38 σ37 gt39 hp => ?_)
    obtain ⟨rfl, rfl, w42, F43, f40⟩ := hp
    clear gt39
    show Tn _ _ 44 T σ37 [(0, .ref a), (1, .int (iI k))] [] _
    refine tn_iconst dX5_numberNew_44 ?_
    refine tn_istore_n (L' := [(2, .int (iI 3)), (0, .ref a), (1, .int (iI k))]) dX5_numberNew_45 rfl (by decide) rfl ?_
    refine tn_sub [1, 2, 0] rfl (l_X5_numberNew_h_46 (d) (T := T) (σ0 := σ37) (a := a) (c1 := k) (cd := cd) (x := x) ha (by omega) w42 (by omega) (rc_F F43 (Or.inl (by decide)) (by decide) (hcd)) (rc_F F43 (Or.inl (by decide)) (by decide) (hx)) (fun i244 σ45 w48 F49 r50 f51 f52 => ?_) _ (3) σ37 w42 FrC.rfl (by omega) CHX.rfl (by omega) rfl)
    show Tn _ _ 122 T σ45 [(0, .ref a), (1, .int (iI k)), (2, .int (iI i244))] [] _
    exact tn_vret rfl dX5_numberNew_122 ⟨rfl, rfl, w48, ((FrC.rfl.trans (FrC.sub F43 (by decide))).trans (FrC.sub F49 (by decide))), ((CHX.rfl.trans (CHX.sub f40 (by simp) (by simp) (by simp))).trans (CHX.sub f51 (by simp) (by simp) (by simp)))⟩
end
section
def NNC (σ σ2 : MS) (c : Nat) (k : Int) : Prop := σ.2.1 6 c ≤ 200 → cdW σ2 c = uZ (cdW σ c) k (nnI (σ.2.1 7 c) (cdW σ c k))
theorem k_numberNew_c (d : Nat) {T : CT} {σ : MS} {a : Nat} {k : Int} {c : Nat} (ha : OB T a 5) (h_k : -2147483648 ≤ k ∧ k ≤ 2147483647) (hw : WT T σ) (hc : σ.2.1 35 a = (c : Int)) (hk : 0 ≤ k ∧ k < σ.2.1 6 c) (hk0 : σ.2.1 6 c ≤ 200 → 0 ≤ cdW σ c k 0) : Tn (d + 3) m_X5_numberNew 0 T σ [(0, .ref a), (1, .int (iI k))] [] (fun ro T2 σ2 => ro = none ∧ T = T2 ∧ WT T2 σ2 ∧ FrC T [] σ σ2 ∧ (CHX [] [adN σ 5 c] [] σ σ2) ∧ (NNC σ σ2 c k)) := by
  have oc := code_ob hw ha hc
  have e5 := ad_1 hw oc 5 (by decide)
  by_cases z : σ.2.1 6 c ≤ 200
  · refine (k_X5_numberNew_x d ha h_k hw hc e5 rfl rfl rfl z hk (hk0 z)).mono (fun ro T2 σ2 hp => ?_)
    obtain ⟨p1, p2, p3, p4, ch, lo⟩ := hp
    refine ⟨p1, p2, p3, p4, ch, fun _ => ?_⟩
    have ax : adN σ2 5 c = adN σ 5 c := by unfold adN; rw [ch.f (by decide) (by simp)]
    unfold cdW
    rw [ax, ch.f (a := c) (n := 6) (by decide) (by simp)]
    exact lo
  · refine (k_X5_numberNew_h d ha h_k hw hc e5 (by have := wf_6 hw oc; omega)).mono (fun ro T2 σ2 hp => ?_)
    obtain ⟨p1, p2, p3, p4, ch⟩ := hp
    exact ⟨p1, p2, p3, p4, ch, fun q => absurd q z⟩
def CLT (s1 σ2 : MS) (c : Nat) (i j : Int) : Prop := CHX [] [adN s1 14 c, adN s1 15 c, adN s1 5 c] [] s1 σ2 ∧ rwF σ2 14 c 0 = s1.2.1 7 c ∧ (∀ m, 0 ≤ m → m < i → rwF σ2 15 c m = m) ∧ (s1.2.1 6 c ≤ 200 → ∀ k, cdW σ2 c k = if 0 ≤ k ∧ k < j then nnI (s1.2.1 7 c) (cdW s1 c k) else cdW s1 c k)
section CLTS
variable {s1 σ τ : MS} {c : Nat} {i j k : Int}
theorem CLT.f (h : CLT s1 σ c i j) (n : Nat) (b : Nat) (hn : n < 1000) : σ.2.1 n b = s1.2.1 n b := h.1.f hn (by simp)
theorem CLT.ad (h : CLT s1 σ c i j) (n : Nat) (b : Nat) (hn : n < 1000) : adN σ n b = adN s1 n b := by unfold adN; rw [h.f n b hn]
theorem CLT.hm {P : Prop} [Decidable P] (h : CLT s1 σ c i 0) (hd : DS [adN s1 14 c, adN s1 15 c, adN s1 5 c]) (e : τ = if P then sA (1000 + adN s1 15 c) i i σ else σ) (hP : P) : CLT s1 τ c (i + 1) 0 := by
  rw [if_pos hP] at e
  obtain ⟨h1, h2, h3, h4⟩ := h
  have c2 : CHX [] [adN s1 14 c, adN s1 15 c, adN s1 5 c] [] s1 τ := by rw [e]; exact h1.arr (by simp)
  have f : ∀ n (b : Nat), n < 1000 → τ.2.1 n b = σ.2.1 n b := fun n b hn => by rw [e, sA_k (by omega)]
  have ea : ∀ n (b : Nat), n < 1000 → adN τ n b = adN s1 n b := fun n b hn => by unfold adN; rw [c2.f hn (by simp)]
  have eb : ∀ n (b : Nat), n < 1000 → adN σ n b = adN s1 n b := fun n b hn => by unfold adN; rw [h1.f hn (by simp)]
  have n1 : adN s1 14 c ≠ adN s1 15 c := hd.ne (i := 0) (j := 1) rfl rfl (by decide)
  have n2 : adN s1 5 c ≠ adN s1 15 c := hd.ne (i := 2) (j := 1) rfl rfl (by decide)
  refine ⟨c2, ?_, fun m m0 m1 => ?_, fun q k => ?_⟩
  · rw [← h2]; unfold rwF; rw [ea 14 c (by decide), eb 14 c (by decide), e, sA_k (by omega)]
  · unfold rwF at h3 ⊢
    rw [ea 15 c (by decide), e, sA_at]
    rw [eb 15 c (by decide)] at h3
    by_cases q : m = i
    · rw [if_pos q, q]
    · rw [if_neg q]; exact h3 m m0 (by omega)
  · have w : cdW τ c = cdW σ c := by
      unfold cdW
      rw [f 6 c (by decide), ea 5 c (by decide), eb 5 c (by decide)]
      exact cW_row (by rw [e, sA_k (by omega)])
    rw [w]; exact h4 q k
theorem CLT.nn (h : CLT s1 σ c i j) (hd : DS [adN s1 14 c, adN s1 15 c, adN s1 5 c]) (ch : CHX [] [adN σ 5 c] [] σ τ) (nn : NNC σ τ c j) (hj : 0 ≤ j) : CLT s1 τ c i (j + 1) := by
  have ea := h.ad 5 c (by decide)
  rw [ea] at ch
  have e6 := h.f 6 c (by decide)
  have e7 := h.f 7 c (by decide)
  obtain ⟨h1, h2, h3, h4⟩ := h
  have c2 : CHX [] [adN s1 14 c, adN s1 15 c, adN s1 5 c] [] s1 τ := h1.trans (CHX.sub ch (by simp) (by simp) (by simp))
  have rr : ∀ f, f = 14 ∨ f = 15 → rwF τ f c = rwF σ f c := fun f hf => by
    have e1 : adN τ f c = adN σ f c := by unfold adN; rw [ch.f (by omega) (by simp)]
    have e2 : adN σ f c = adN s1 f c := by unfold adN; rw [h1.f (by omega) (by simp)]
    unfold rwF
    rw [e1]
    refine ch.r ?_
    rw [e2]
    simp only [List.mem_singleton]
    rcases hf with rfl | rfl
    · exact hd.ne (i := 0) (j := 2) rfl rfl (by decide)
    · exact hd.ne (i := 1) (j := 2) rfl rfl (by decide)
  refine ⟨c2, by rw [rr 14 (Or.inl rfl)]; exact h2, fun m m0 m1 => by rw [rr 15 (Or.inr rfl)]; exact h3 m m0 m1, fun q k => ?_⟩
  rw [nn (by omega), e7]
  by_cases z : k = j
  · rw [z, uZ_eq, if_pos (by omega), h4 q j, if_neg (by omega)]
  · rw [uZ_ne z, h4 q k]
    by_cases w : 0 ≤ k ∧ k < j
    · rw [if_pos w, if_pos (by omega)]
    · rw [if_neg w, if_neg (by omega)]
theorem INJ.d3 {S : Nat → Prop} {T : CT} {σ : MS} {c : Nat} (h : INJ S T σ) (sc : S c) (oc : OB T c 1) : DS [adN σ 14 c, adN σ 15 c, adN σ 5 c] := h.ds (L := [(14, c), (15, c), (5, c)]) (fun p hp => by
  simp only [List.mem_cons, List.not_mem_nil, or_false] at hp
  rcases hp with rfl | rfl | rfl <;> exact ⟨by simp, sc, oc⟩) (by simp)
end CLTS
section FGI
variable {S : Nat → Prop} {Tg T : CT} {g σ : MS} {a e : Nat}
theorem FG.inj (h : FG Tg g T σ a) (hI : INJ S Tg g) (hw : WT Tg g) (sc : S (adN g 35 a)) : INJ S T σ := by
  have ot : ∀ b, S b → T b = Tg b := fun b sb => by have z := hI.1 b sb; exact h.1 b (by omega) (by omega)
  have oo : ∀ b ci, S b → OB T b ci → OB Tg b ci := fun b ci sb ob => by unfold OB at ob ⊢; rw [ot b sb] at ob; exact ob
  have ad : ∀ f b, f ∈ AFL → ¬ (f = 5 ∧ b = adN g 35 a) → adN σ f b = adN g f b := fun f b hf hn => by
    unfold adN
    rw [h.2.1.f (by simp only [List.mem_cons, List.not_mem_nil, or_false] at hf; omega) (by
      simp only [List.mem_cons, List.not_mem_nil, or_false] at hf
      simp only [List.mem_cons, List.not_mem_nil, or_false, Prod.mk.injEq]
      omega)]
  have al : ∀ f b, f ∈ AFL → S b → OB Tg b (cls f) → (Tg (adN g f b)).1 ≠ 0 ∧ (Tg (adN g f b)).1 < 80 := fun f b hf sb ob => by have z := (af_k hw hf ob).2; unfold AFK at z; omega
  refine ⟨fun b sb => by rw [ot b sb]; exact hI.1 b sb, fun f f2 b1 b2 hf hg sa sb oa ob q => ?_⟩
  have oa' := oo b1 _ sa oa
  have ob' := oo b2 _ sb ob
  rcases h.2.2 with h5 | h5
  · have ad' : ∀ f b, f ∈ AFL → adN σ f b = adN g f b := fun f b hf => by
      by_cases q : f = 5 ∧ b = adN g 35 a
      · rw [q.1, q.2]; show (σ.2.1 5 _).toNat = (g.2.1 5 _).toNat; rw [h5]
      · exact ad f b hf q
    rw [ad' f b1 hf, ad' f2 b2 hg] at q
    exact hI.2 f f2 b1 b2 hf hg sa sb oa' ob' q
  · by_cases q1 : f = 5 ∧ b1 = adN g 35 a
    · by_cases q2 : f2 = 5 ∧ b2 = adN g 35 a
      · exact ⟨q1.1.trans q2.1.symm, q1.2.trans q2.2.symm⟩
      · rw [q1.1, q1.2, ad f2 b2 hg q2] at q
        exact absurd (by rw [q]; exact al f2 b2 hg sb ob') h5
    · by_cases q2 : f2 = 5 ∧ b2 = adN g 35 a
      · rw [q2.1, q2.2, ad f b1 hf q1] at q
        exact absurd (by rw [← q]; exact al f b1 hf sa oa') h5
      · rw [ad f b1 hf q1, ad f2 b2 hg q2] at q
        exact hI.2 f f2 b1 b2 hf hg sa sb oa' ob' q
theorem FG.csm (h : FG Tg g T σ a) (hI : INJ S Tg g) (hw : WT Tg g) (ha : OB Tg a 5) (sa : S a) (sc : S (adN g 35 a)) (se : S e) (oe : OB Tg e 1) (ne : e ≠ adN g 35 a) : CSM g σ e := by
  have oc : OB Tg (adN g 35 a) 1 := by
    obtain ⟨y, h1, h2⟩ := wf_35 hw ha
    rw [adN_of h1]
    exact ⟨by omega, by rw [h2]; rfl, by omega⟩
  refine ⟨fun f f0 f1 => h.2.1.f (by omega) (by simp only [List.mem_cons, List.not_mem_nil, or_false, Prod.mk.injEq]; omega), fun f hf => h.2.1.2.1 _ (fun q => ?_) ?_⟩
  · have fa : f ∈ AFL ∧ cls f = 1 := by
      simp only [List.mem_cons, List.not_mem_nil, or_false] at hf
      rcases hf with rfl | rfl | rfl | rfl | rfl | rfl <;> exact ⟨by decide, rfl⟩
    have fb : f ≠ 36 ∧ f ≠ 37 ∧ f ≠ 39 ∧ f ≠ 40 ∧ f ≠ 41 ∧ f ≠ 48 ∧ f ≠ 49 := by
      simp only [List.mem_cons, List.not_mem_nil, or_false] at hf
      omega
    have oe' : OB Tg e (cls f) := by rw [fa.2]; exact oe
    rcases List.mem_append.mp q with q | q
    · simp only [List.mem_cons, List.not_mem_nil, or_false] at q
      rcases q with q | q
      · exact hI.ne (g := 5) se sc oe' oc fa.1 (by decide) (Or.inr ne) q
      · exact hI.ne (g := 48) se sa oe' ha fa.1 (by decide) (Or.inl (by omega)) q
    · unfold RRX at q
      by_cases z : g.1 5 = 1
      · rw [if_pos z] at q; exact absurd q (by simp)
      · rw [if_neg z] at q
        simp only [List.mem_cons, List.not_mem_nil, or_false] at q
        rcases q with q | q | q | q | q
        · exact hI.ne (g := 37) se sa oe' ha fa.1 (by decide) (Or.inl (by omega)) q
        · exact hI.ne (g := 39) se sa oe' ha fa.1 (by decide) (Or.inl (by omega)) q
        · exact hI.ne (g := 40) se sa oe' ha fa.1 (by decide) (Or.inl (by omega)) q
        · exact hI.ne (g := 41) se sa oe' ha fa.1 (by decide) (Or.inl (by omega)) q
        · exact hI.ne (g := 49) se sa oe' ha fa.1 (by decide) (Or.inl (by omega)) q
  · have z := af6_k hw oe f hf
    omega
end FGI
theorem CLT.in {s1 τ : MS} {c : Nat} {P : Prop} [Decidable P] (hd : DS [adN s1 14 c, adN s1 15 c, adN s1 5 c]) (e : τ = if P then sA (1000 + adN s1 14 c) 0 (s1.2.1 7 c) s1 else s1) (hP : P) : CLT s1 τ c 0 0 := by
  rw [if_pos hP] at e
  have c2 : CHX [] [adN s1 14 c, adN s1 15 c, adN s1 5 c] [] s1 τ := by rw [e]; exact CHX.rfl.arr (by simp)
  have ea : ∀ n (b : Nat), n < 1000 → adN τ n b = adN s1 n b := fun n b hn => by unfold adN; rw [c2.f hn (by simp)]
  have n2 : adN s1 5 c ≠ adN s1 14 c := hd.ne (i := 2) (j := 0) rfl rfl (by decide)
  refine ⟨c2, ?_, fun m m0 m1 => absurd m1 (by omega), fun q k => ?_⟩
  · unfold rwF; rw [ea 14 c (by decide), e, sA_at, if_pos rfl]
  · have w : cdW τ c = cdW s1 c := by
      unfold cdW
      rw [c2.f (a := c) (n := 6) (by decide) (by simp), ea 5 c (by decide)]
      exact cW_row (by rw [e, sA_k (by omega)])
    rw [w, if_neg (by omega)]
theorem MG.kd {Tg T : CT} {g σ : MS} {a c : Nat} {m : MK} (h : MG Tg g T σ a m) (hc : adN g 35 a = c) : σ.2.1 6 c ≤ 200 → ∀ k, 0 ≤ k → k < σ.2.1 6 c → 0 ≤ cdW σ c k 0 := fun q k k0 k1 => by
  subst hc
  have w := h.2.2.1 (by rw [← h.2.1]; exact q)
  have z := w.2.1 k k0 (by rw [← h.2.1]; exact k1)
  rw [← w.1, vW_0] at z
  exact z
theorem CLT.kd {s1 σ : MS} {c : Nat} {i j : Int} (h : CLT s1 σ c i j) (hj : 0 ≤ j ∧ j < σ.2.1 6 c) (hk : s1.2.1 6 c ≤ 200 → ∀ k, 0 ≤ k → k < s1.2.1 6 c → 0 ≤ cdW s1 c k 0) : σ.2.1 6 c ≤ 200 → 0 ≤ cdW σ c j 0 := fun q => by
  have e6 := h.f 6 c (by decide)
  rw [h.2.2.2 (by omega) j, if_neg (by omega)]
  exact hk (by omega) j hj.1 (by omega)
end
