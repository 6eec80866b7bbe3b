section
def rwI (k p q : Int) : It := fun c => if c = 0 then k else if c = 1 then p else if c = 2 then q else 0
def APQ (T : CT) (σ2 : MS) (a x : Nat) (n : Int) (W : Int → It) (k p q : Int) : Prop := ∃ x2 : Nat, σ2.2.1 5 a = (x2 : Int) ∧ (x2 = x ∨ (T x2).1 = 0) ∧ (n < 200 → cW σ2 x2 (n + 1) = uZ W n (rwI k p q))
theorem cw_fil {σ τ : MS} {x x2 : Nat} {n f t : Int} {R1 : Int → Int} (h1 : ∀ z, 0 ≤ z → z < 13 * n → R1 z = σ.2.1 (1000 + x) z) (h3 : ∀ j, τ.2.1 (1000 + x2) j = if f ≤ j ∧ j < t then 0 else R1 j) (ef : f = 13 * n) (et : t = 13 * n + 13) (hn : 0 ≤ n) : cW τ x2 (n + 1) = uZ (cW σ x n) n zI := by
  funext i c
  by_cases e : i = n
  · rw [e, uZ_eq]
    unfold cW
    by_cases g : (0 ≤ n ∧ n < n + 1) ∧ 0 ≤ c ∧ c ≤ 12
    · rw [if_pos g, h3, if_pos (by omega)]; rfl
    · rw [if_neg g]; rfl
  · rw [uZ_ne e]
    unfold cW
    by_cases g : (0 ≤ i ∧ i < n) ∧ 0 ≤ c ∧ c ≤ 12
    · rw [if_pos g, if_pos (by omega), h3, if_neg (by omega), h1 _ (by omega) (by omega)]
    · rw [if_neg g, if_neg (by omega)]
theorem cw_app {σ τ : MS} {x x2 : Nat} {n f t z0 z1 z2 k p q : Int} {R1 : Int → Int} (h1 : ∀ z, 0 ≤ z → z < 13 * n → R1 z = σ.2.1 (1000 + x) z) (h3 : ∀ j, τ.2.1 (1000 + x2) j = if f ≤ j ∧ j < t then 0 else R1 j) (ef : f = 13 * n) (et : t = 13 * n + 13) (hn : 0 ≤ n) (e0 : z0 = 13 * n) (e1 : z1 = 13 * n + 1) (e2 : z2 = 13 * n + 2) : cW (sA (1000 + x2) z2 q (sA (1000 + x2) z1 p (sA (1000 + x2) z0 k τ))) x2 (n + 1) = uZ (cW σ x n) n (rwI k p q) := by
  have w := cw_fil h1 h3 ef et hn
  have r0 : 0 ≤ n ∧ n < n + 1 := ⟨hn, by omega⟩
  rw [cW_put r0 (c := 2) (by decide) (by omega), cW_put r0 (c := 1) (by decide) (by omega), cW_put r0 (c := 0) (by decide) (by omega), w]
  simp only [uZ_eq, uZ_uZ]
  congr 1
  funext c
  unfold uZ rwI zI
  by_cases a0 : c = 0
  · rw [if_pos a0]; subst a0; rfl
  · rw [if_neg a0]
    by_cases a1 : c = 1
    · rw [if_pos a1]; subst a1; rfl
    · rw [if_neg a1]
      by_cases a2 : c = 2
      · rw [if_pos a2, if_neg a0, if_neg a1]
      · rw [if_neg a2, if_neg a0, if_neg a1]
theorem cw_lop {σ : MS} {x : Nat} {n z0 z1 i k p : Int} (hn : 1 ≤ n) (hi : 0 ≤ i ∧ i < 4) (e0 : z0 = 13 * (n - 1) + (3 + 2 * i)) (e1 : z1 = 13 * (n - 1) + (4 + 2 * i)) : cW (sA (1000 + x) z1 p (sA (1000 + x) z0 k σ)) x n = uZ (cW σ x n) (n - 1) (uZ (uZ (cW σ x n (n - 1)) (3 + 2 * i) k) (4 + 2 * i) p) := by
  have r0 : 0 ≤ n - 1 ∧ n - 1 < n := ⟨by omega, by omega⟩
  rw [cW_put r0 (c := 4 + 2 * i) ⟨by omega, by omega⟩ (by omega), cW_put r0 (c := 3 + 2 * i) ⟨by omega, by omega⟩ (by omega)]
  simp only [uZ_eq, uZ_uZ]
def LOQ (σ2 : MS) (x : Nat) (n : Int) (W : Int → It) (i k p : Int) : Prop := n ≤ 200 → cW σ2 x n = uZ W (n - 1) (uZ (uZ (W (n - 1)) (3 + 2 * i) k) (4 + 2 * i) p)
def cp1 (s : MS) (y x : Nat) (l : Int) : MS := rowS (1000 + x) (cpZ (s.2.1 (1000 + y)) (s.2.1 (1000 + x)) 0 0 l) s
theorem cp1_eq {s : MS} {y x : Nat} {l z : Int} (h : 0 ≤ z ∧ z < l) : (cp1 s y x l).2.1 (1000 + x) z = s.2.1 (1000 + y) z := by
  unfold cp1
  rw [rowS_eq]
  unfold cpZ
  rw [if_pos (by omega), show (0 : Int) + (z - 0) = z by omega]
theorem cp1_ne {s : MS} {y x z : Nat} {l : Int} (h : z ≠ x) : (cp1 s y x l).2.1 (1000 + z) = s.2.1 (1000 + z) := by
  unfold cp1
  exact rowS_ne (by omega)
theorem cp6 {s : MS} {x2 xR xP xL xn xh y yR yP yL yn yh : Nat} {l l1 l2 l3 l4 l5 : Int} (hd : DS [x2, xR, xP, xL, xn, xh, y, yR, yP, yL, yn, yh]) {t1 t2 t3 t4 t5 t : MS} (h1 : t1 = cp1 s y x2 l) (h2 : t2 = cp1 t1 yR xR l1) (h3 : t3 = cp1 t2 yP xP l2) (h4 : t4 = cp1 t3 yL xL l3) (h5 : t5 = cp1 t4 yn xn l4) (h6 : t = cp1 t5 yh xh l5) : (∀ z, 0 ≤ z → z < l → t.2.1 (1000 + x2) z = s.2.1 (1000 + y) z) ∧ (∀ z, 0 ≤ z → z < l1 → t.2.1 (1000 + xR) z = s.2.1 (1000 + yR) z) ∧ (∀ z, 0 ≤ z → z < l2 → t.2.1 (1000 + xP) z = s.2.1 (1000 + yP) z) ∧ (∀ z, 0 ≤ z → z < l3 → t.2.1 (1000 + xL) z = s.2.1 (1000 + yL) z) ∧ (∀ z, 0 ≤ z → z < l4 → t.2.1 (1000 + xn) z = s.2.1 (1000 + yn) z) ∧ (∀ z, 0 ≤ z → z < l5 → t.2.1 (1000 + xh) z = s.2.1 (1000 + yh) z) := by
  subst h1; subst h2; subst h3; subst h4; subst h5; subst h6
  refine ⟨fun z a b => ?_, fun z a b => ?_, fun z a b => ?_, fun z a b => ?_, fun z a b => ?_, fun z a b => ?_⟩
  · rw [cp1_ne (hd.ne (i := 0) (j := 5) rfl rfl (by decide)), cp1_ne (hd.ne (i := 0) (j := 4) rfl rfl (by decide)), cp1_ne (hd.ne (i := 0) (j := 3) rfl rfl (by decide)), cp1_ne (hd.ne (i := 0) (j := 2) rfl rfl (by decide)), cp1_ne (hd.ne (i := 0) (j := 1) rfl rfl (by decide)), cp1_eq ⟨a, b⟩]
  · rw [cp1_ne (hd.ne (i := 1) (j := 5) rfl rfl (by decide)), cp1_ne (hd.ne (i := 1) (j := 4) rfl rfl (by decide)), cp1_ne (hd.ne (i := 1) (j := 3) rfl rfl (by decide)), cp1_ne (hd.ne (i := 1) (j := 2) rfl rfl (by decide)), cp1_eq ⟨a, b⟩, cp1_ne (hd.ne (i := 7) (j := 0) rfl rfl (by decide))]
  · rw [cp1_ne (hd.ne (i := 2) (j := 5) rfl rfl (by decide)), cp1_ne (hd.ne (i := 2) (j := 4) rfl rfl (by decide)), cp1_ne (hd.ne (i := 2) (j := 3) rfl rfl (by decide)), cp1_eq ⟨a, b⟩, cp1_ne (hd.ne (i := 8) (j := 1) rfl rfl (by decide)), cp1_ne (hd.ne (i := 8) (j := 0) rfl rfl (by decide))]
  · rw [cp1_ne (hd.ne (i := 3) (j := 5) rfl rfl (by decide)), cp1_ne (hd.ne (i := 3) (j := 4) rfl rfl (by decide)), cp1_eq ⟨a, b⟩, cp1_ne (hd.ne (i := 9) (j := 2) rfl rfl (by decide)), cp1_ne (hd.ne (i := 9) (j := 1) rfl rfl (by decide)), cp1_ne (hd.ne (i := 9) (j := 0) rfl rfl (by decide))]
  · rw [cp1_ne (hd.ne (i := 4) (j := 5) rfl rfl (by decide)), cp1_eq ⟨a, b⟩, cp1_ne (hd.ne (i := 10) (j := 3) rfl rfl (by decide)), cp1_ne (hd.ne (i := 10) (j := 2) rfl rfl (by decide)), cp1_ne (hd.ne (i := 10) (j := 1) rfl rfl (by decide)), cp1_ne (hd.ne (i := 10) (j := 0) rfl rfl (by decide))]
  · rw [cp1_eq ⟨a, b⟩, cp1_ne (hd.ne (i := 11) (j := 4) rfl rfl (by decide)), cp1_ne (hd.ne (i := 11) (j := 3) rfl rfl (by decide)), cp1_ne (hd.ne (i := 11) (j := 2) rfl rfl (by decide)), cp1_ne (hd.ne (i := 11) (j := 1) rfl rfl (by decide)), cp1_ne (hd.ne (i := 11) (j := 0) rfl rfl (by decide))]
def CPQ (T : CT) (σ σ2 : MS) (a x y : Nat) (m : Int) (xR xP xL xn xh yR yP yL yn yh : Nat) : Prop := ∃ x2 : Nat, σ2.2.1 5 a = (x2 : Int) ∧ (x2 = x ∨ (T x2).1 = 0) ∧ cW σ2 x2 m = cW σ y m ∧ (∀ z, 0 ≤ z → z < 12 → σ2.2.1 (1000 + xR) z = σ.2.1 (1000 + yR) z) ∧ (∀ z, 0 ≤ z → z < 12 → σ2.2.1 (1000 + xP) z = σ.2.1 (1000 + yP) z) ∧ (∀ z, 0 ≤ z → z < 12 → σ2.2.1 (1000 + xL) z = σ.2.1 (1000 + yL) z) ∧ (∀ z, 0 ≤ z → z < 12 → σ2.2.1 (1000 + xn) z = σ.2.1 (1000 + yn) z) ∧ (∀ z, 0 ≤ z → z < 144 → σ2.2.1 (1000 + xh) z = σ.2.1 (1000 + yh) z)
theorem DS.fr {T : CT} {x x2 : Nat} {l : List Nat} (h : DS (x :: l)) (e : x2 = x ∨ (T x2).1 = 0) (k : ∀ z, z ∈ l → (T z).1 ≠ 0) : DS (x2 :: l) := by
  rcases e with e | e
  · rw [e]; exact h
  · intro i j a b hi hj hij
    have me : ∀ (i b : Nat), l[i]? = some b → b ≠ x2 := fun i b q w => by
      have z := k b (List.mem_of_getElem? q)
      rw [w] at z
      exact z e
    cases i with
    | zero =>
      cases j with
      | zero => exact absurd rfl hij
      | succ j =>
        have e1 : x2 = a := by simpa using hi
        exact fun w => me j b (by simpa using hj) (by rw [← w, e1])
    | succ i =>
      cases j with
      | zero =>
        have e1 : x2 = b := by simpa using hj
        exact fun w => me i a (by simpa using hi) (by rw [w, e1])
      | succ j => exact h (i + 1) (j + 1) a b (by simpa using hi) (by simpa using hj) hij
end
section
set_option maxHeartbeats 1000000 in
set_option maxRecDepth 20000 in
theorem k_X1_append_x (d : Nat) {T : CT} {σ : MS} {a : Nat} {k : Int} {p : Int} {q : Int} {x : Nat} {n : Int} {W : Int → It} (ha : OB T a 1) (hta : (T a).1 = 31) (h_k : -2147483648 ≤ k ∧ k ≤ 2147483647) (h_p : -2147483648 ≤ p ∧ p ≤ 2147483647) (h_q : -2147483648 ≤ q ∧ q ≤ 2147483647) (hw : WT T σ) (hx : σ.2.1 5 a = (x : Int)) (hn : σ.2.1 6 a = n) (hW : cW σ x n = W) (hc : n ≤ 4999) (hk : k ≠ 14 ∧ k ≠ 15) : Tn (d + 3) m_X1_append 0 T σ [(0, .ref a), (1, .int (iI k)), (2, .int (iI p)), (3, .int (iI q))] [] (fun ro T2 σ2 => ro = none ∧ WT T2 σ2 ∧ FrC T [5, 6] σ σ2 ∧ (CHN T [(5, a), (6, a)] [x] [] σ σ2) ∧ (σ2.2.1 6 a = n + 1) ∧ (APQ T σ2 a x n W k p q)) := by
  obtain ⟨hl4, hk3a, hk3b⟩ := cel_of (wf_5 hw ha) hx
  have hk3 : (T x).1 = 13 := hk3b (by omega)
  clear hk3a hk3b
  have hk3i : IA T x := by unfold IA; omega
  have g5 : 13 * σ.2.1 6 a ≤ ((T x).2 : Int) ∨ 2600 ≤ (T x).2 := hw.2.1 a x ha hx
  refine tn_aload_n dX1_append_0 rfl 0 rfl ?_
  refine tn_getI (ci := 1) (i := 1) (n := 6) (t := σ.2.1 6 a) dX1_append_1 rfl lay_1 (by decide) fl1_33 ha rfl rfl (rfl) ?_
  have g6 : ((0 : Int) ≤ σ.2.1 6 a ∧ σ.2.1 6 a ≤ 5000) ∧ ((T a).1 = 50 → σ.2.1 6 a ≤ 200) := wf_6 hw ha
  have g6x := g6.2
  replace g6 := g6.1
  clear g6x
  refine tn_bipush dX1_append_4 (by decide) ?_
  refine tn_imul dX1_append_6 ?_
  refine tn_istore (L' := [(4, .int (iI ((σ.2.1 6 a) * 13))), (0, .ref a), (1, .int (iI k)), (2, .int (iI p)), (3, .int (iI q))]) dX1_append_7 (by decide) rfl ?_
  refine tn_aload_n dX1_append_9 rfl 1 rfl ?_
  refine tn_dup dX1_append_10 rfl ?_
  refine tn_getI (ci := 1) (i := 1) (n := 6) (t := σ.2.1 6 a) dX1_append_11 rfl lay_1 (by decide) fl1_33 ha rfl rfl (rfl) ?_
  refine tn_iconst dX1_append_14 ?_
  refine tn_iadd dX1_append_15 ?_
  have g7 : 13 * σ.2.1 6 a ≤ ((T x).2 : Int) ∨ 2600 ≤ (T x).2 := hw.2.1 a x ha hx
  refine tn_putV (ci := 1) (i := 1) (n := 6) (r := false) (v := (σ.2.1 6 a) + 1) tyX1 tyX1_ok nmX1 dX1_append_16 rfl lay_1 (by decide) fl1_33 rfl (tyX1_ok 1 (by decide)) rfl rfl rfl ha rfl rfl ?_
  refine tn_iload dX1_append_19 0 rfl ?_
  refine tn_bipush dX1_append_21 (by decide) ?_
  refine tn_iadd dX1_append_23 ?_
  refine tn_aload_n dX1_append_24 rfl 1 rfl ?_
  refine tn_getR (ci := 1) (i := 0) (n := 5) (x := x) dX1_append_25 rfl lay_1 (by decide) fl1_9 ha rfl rfl (rc_o (by decide) (hx)) ?_
  refine tn_alenX dX1_append_28 (Or.inl hk3i) ?_
  refine tn_icmp_le (tgt := 66) dX1_append_29 (by decide) ⟨by omega, by omega⟩ ⟨by omega, by omega⟩ (fun h8 => ?_) (fun h8 => ?_)
  · refine tn_iload dX1_append_66 0 rfl ?_
    refine tn_if_lt (tgt := 129) dX1_append_68 (by decide) ⟨by omega, by omega⟩ (fun h9 => absurd h9 (by omega)) (fun h9 => ?_)
    refine tn_iload dX1_append_71 0 rfl ?_
    refine tn_bipush dX1_append_73 (by decide) ?_
    refine tn_iadd dX1_append_75 ?_
    refine tn_aload_n dX1_append_76 rfl 1 rfl ?_
    refine tn_getR (ci := 1) (i := 0) (n := 5) (x := x) dX1_append_77 rfl lay_1 (by decide) fl1_9 ha rfl rfl (rc_o (by decide) (hx)) ?_
    refine tn_alenX dX1_append_80 (Or.inl hk3i) ?_
    refine tn_icmp_gt (tgt := 129) dX1_append_81 (by decide) ⟨by omega, by omega⟩ ⟨by omega, by omega⟩ (fun h10 => ?_) (fun h10 => ?_)
    · exact tn_vret rfl dX1_append_129 ⟨rfl, (hw.put6 (hx) (fo_6 ⟨by omega, by omega⟩) (by omega)), (FrC.rfl.put (by decide) (by decide)), (CHN.rfl.fld (by simp) (by decide)), ((show (sA 6 a ((σ.2.1 6 a) + 1) σ).2.1 6 a = (σ.2.1 6 a) + 1 from ra_eq).trans (by omega)), ⟨x, rc_o (by decide) (hx), Or.inl rfl, fun q9 => False.elim (by omega)⟩⟩
    · refine tn_aload_n dX1_append_84 rfl 1 rfl ?_
      refine tn_getR (ci := 1) (i := 0) (n := 5) (x := x) dX1_append_85 rfl lay_1 (by decide) fl1_9 ha rfl rfl (rc_o (by decide) (hx)) ?_
      refine tn_iload dX1_append_88 0 rfl ?_
      refine tn_iload dX1_append_90 0 rfl ?_
      refine tn_bipush dX1_append_92 (by decide) ?_
      refine tn_iadd dX1_append_94 ?_
      refine tn_iconst dX1_append_95 ?_
      refine tn_callS (M := m_X1_append) (pc := 96) (ix := 72) (M' := m_J7_fill_fda19) (As := [.ref x, .int (iI ((σ.2.1 6 a) * 13)), .int (iI (((σ.2.1 6 a) * 13) + 13)), .int (iI 0)]) (rest := []) dX1_append_96 ok_J7_fill_fda19 stt_J7_fill_fda19 ml1_72 np_J7_fill_fda19 rfl (Nat.le_of_ble_eq_true rfl) (Nat.le_of_ble_eq_true rfl) rfl (k_J7_fill_fda19_x (d) (T := T) (σ := (sA 6 a ((σ.2.1 6 a) + 1) σ)) (x := x) (f := (σ.2.1 6 a) * 13) (t := ((σ.2.1 6 a) * 13) + 13) (y := 0) hk3i (by omega) (by omega) (by omega) (by decide) (hw.put6 (hx) (fo_6 ⟨by omega, by omega⟩) (by omega)) (nh_k hk3 (by unfold HT; omega)) (by omega) (by omega)) (fun r11 T13 σ12 gt14 hp => ?_)
      obtain ⟨rfl, rfl, w18, F19, f15, f16⟩ := hp
      clear gt14
      show Tn _ _ 99 T σ12 [(4, .int (iI ((σ.2.1 6 a) * 13))), (0, .ref a), (1, .int (iI k)), (2, .int (iI p)), (3, .int (iI q))] [] _
      refine tn_aload_n dX1_append_99 rfl 1 rfl ?_
      refine tn_getR (ci := 1) (i := 0) (n := 5) (x := x) dX1_append_100 rfl lay_1 (by decide) fl1_9 ha rfl rfl (rc_F F19 (Or.inl (by decide)) (by decide) (rc_o (by decide) (hx))) ?_
      refine tn_iload dX1_append_103 0 rfl ?_
      refine tn_iconst dX1_append_105 ?_
      refine tn_iadd dX1_append_106 ?_
      refine tn_iload_n dX1_append_107 rfl 2 rfl ?_
      refine tn_iast (z := ((σ.2.1 6 a) * 13) + 0) (v := k) dX1_append_108 hk3i (by omega) (by omega) (by omega) ?_
      refine tn_aload_n dX1_append_109 rfl 1 rfl ?_
      refine tn_getR (ci := 1) (i := 0) (n := 5) (x := x) dX1_append_110 rfl lay_1 (by decide) fl1_9 ha rfl rfl (rc_a (Or.inl (by decide)) (rc_F F19 (Or.inl (by decide)) (by decide) (rc_o (by decide) (hx)))) ?_
      refine tn_iload dX1_append_113 0 rfl ?_
      refine tn_iconst dX1_append_115 ?_
      refine tn_iadd dX1_append_116 ?_
      refine tn_iload_n dX1_append_117 rfl 3 rfl ?_
      refine tn_iast (z := ((σ.2.1 6 a) * 13) + 1) (v := p) dX1_append_118 hk3i (by omega) (by omega) (by omega) ?_
      refine tn_aload_n dX1_append_119 rfl 1 rfl ?_
      refine tn_getR (ci := 1) (i := 0) (n := 5) (x := x) dX1_append_120 rfl lay_1 (by decide) fl1_9 ha rfl rfl (rc_a (Or.inl (by decide)) (rc_a (Or.inl (by decide)) (rc_F F19 (Or.inl (by decide)) (by decide) (rc_o (by decide) (hx))))) ?_
      refine tn_iload dX1_append_123 0 rfl ?_
      refine tn_iconst dX1_append_125 ?_
      refine tn_iadd dX1_append_126 ?_
      refine tn_iload_n dX1_append_127 rfl 4 rfl ?_
      refine tn_iast (z := ((σ.2.1 6 a) * 13) + 2) (v := q) dX1_append_128 hk3i (by omega) (by omega) (by omega) ?_
      exact tn_vret rfl dX1_append_129 ⟨rfl, (((w18.arr (Or.inl hk3i) (vok_13 (by have q9 := hk3; omega) (by omega) (fun _ q => by omega))).arr (Or.inl hk3i) (vok_13 (by have q9 := hk3; omega) (by omega) (fun _ q => by omega))).arr (Or.inl hk3i) (vok_13 (by have q9 := hk3; omega) (by omega) (fun _ q => by omega))), (((((FrC.rfl.put (by decide) (by decide)).trans (FrC.sub F19 (by decide))).arr (hk_no (nh_k hk3 (by unfold HT; omega)))).arr (hk_no (nh_k hk3 (by unfold HT; omega)))).arr (hk_no (nh_k hk3 (by unfold HT; omega)))), (((((CHN.rfl.fld (by simp) (by decide)).trans (CHN.of f15 (by simp) (fun z q => Or.inl (by revert q; simp; try omega)) (by simp))).arr (Or.inl (by simp))).arr (Or.inl (by simp))).arr (Or.inl (by simp))), ((show (sA (1000 + x) (((σ.2.1 6 a) * 13) + 2) (q) (sA (1000 + x) (((σ.2.1 6 a) * 13) + 1) (p) (sA (1000 + x) (((σ.2.1 6 a) * 13) + 0) (k) σ12))).2.1 6 a = (σ.2.1 6 a) + 1 from rc_a (Or.inl (by decide)) (rc_a (Or.inl (by decide)) (rc_a (Or.inl (by decide)) (rc_F F19 (Or.inl (by decide)) (by decide) (ra_eq))))).trans (by omega)), ⟨x, rc_a (Or.inl (by decide)) (rc_a (Or.inl (by decide)) (rc_a (Or.inl (by decide)) (rc_F F19 (Or.inl (by decide)) (by decide) (rc_o (by decide) (hx))))), Or.inl rfl, fun q9 => by rw [← hW]; exact cw_app (R1 := (sA 6 a ((σ.2.1 6 a) + 1) σ).2.1 (1000 + x)) (fun z _ _ => by rw [sA_k (by omega)]) f16 (by omega) (by omega) (by omega) (by omega) (by omega) (by omega)⟩⟩
  · refine tn_aload_n dX1_append_32 rfl 1 rfl ?_
    refine tn_getI (ci := 1) (i := 1) (n := 6) (t := (σ.2.1 6 a) + 1) dX1_append_33 rfl lay_1 (by decide) fl1_33 ha rfl rfl (ra_eq) ?_
    refine tn_sipush dX1_append_36 (by decide) ?_
    refine tn_icmp_gt (tgt := 66) dX1_append_39 (by decide) ⟨by omega, by omega⟩ ⟨by decide, by decide⟩ (fun h20 => ?_) (fun h20 => ?_)
    · refine tn_iload dX1_append_66 0 rfl ?_
      refine tn_if_lt (tgt := 129) dX1_append_68 (by decide) ⟨by omega, by omega⟩ (fun h21 => absurd h21 (by omega)) (fun h21 => ?_)
      refine tn_iload dX1_append_71 0 rfl ?_
      refine tn_bipush dX1_append_73 (by decide) ?_
      refine tn_iadd dX1_append_75 ?_
      refine tn_aload_n dX1_append_76 rfl 1 rfl ?_
      refine tn_getR (ci := 1) (i := 0) (n := 5) (x := x) dX1_append_77 rfl lay_1 (by decide) fl1_9 ha rfl rfl (rc_o (by decide) (hx)) ?_
      refine tn_alenX dX1_append_80 (Or.inl hk3i) ?_
      refine tn_icmp_gt (tgt := 129) dX1_append_81 (by decide) ⟨by omega, by omega⟩ ⟨by omega, by omega⟩ (fun h22 => ?_) (fun h22 => ?_)
      · exact tn_vret rfl dX1_append_129 ⟨rfl, (hw.put6 (hx) (fo_6 ⟨by omega, by omega⟩) (by omega)), (FrC.rfl.put (by decide) (by decide)), (CHN.rfl.fld (by simp) (by decide)), ((show (sA 6 a ((σ.2.1 6 a) + 1) σ).2.1 6 a = (σ.2.1 6 a) + 1 from ra_eq).trans (by omega)), ⟨x, rc_o (by decide) (hx), Or.inl rfl, fun q9 => False.elim (by omega)⟩⟩
      · refine tn_aload_n dX1_append_84 rfl 1 rfl ?_
        refine tn_getR (ci := 1) (i := 0) (n := 5) (x := x) dX1_append_85 rfl lay_1 (by decide) fl1_9 ha rfl rfl (rc_o (by decide) (hx)) ?_
        refine tn_iload dX1_append_88 0 rfl ?_
        refine tn_iload dX1_append_90 0 rfl ?_
        refine tn_bipush dX1_append_92 (by decide) ?_
        refine tn_iadd dX1_append_94 ?_
        refine tn_iconst dX1_append_95 ?_
        refine tn_callS (M := m_X1_append) (pc := 96) (ix := 72) (M' := m_J7_fill_fda19) (As := [.ref x, .int (iI ((σ.2.1 6 a) * 13)), .int (iI (((σ.2.1 6 a) * 13) + 13)), .int (iI 0)]) (rest := []) dX1_append_96 ok_J7_fill_fda19 stt_J7_fill_fda19 ml1_72 np_J7_fill_fda19 rfl (Nat.le_of_ble_eq_true rfl) (Nat.le_of_ble_eq_true rfl) rfl (k_J7_fill_fda19_x (d) (T := T) (σ := (sA 6 a ((σ.2.1 6 a) + 1) σ)) (x := x) (f := (σ.2.1 6 a) * 13) (t := ((σ.2.1 6 a) * 13) + 13) (y := 0) hk3i (by omega) (by omega) (by omega) (by decide) (hw.put6 (hx) (fo_6 ⟨by omega, by omega⟩) (by omega)) (nh_k hk3 (by unfold HT; omega)) (by omega) (by omega)) (fun r23 T25 σ24 gt26 hp => ?_)
        obtain ⟨rfl, rfl, w30, F31, f27, f28⟩ := hp
        clear gt26
        show Tn _ _ 99 T σ24 [(4, .int (iI ((σ.2.1 6 a) * 13))), (0, .ref a), (1, .int (iI k)), (2, .int (iI p)), (3, .int (iI q))] [] _
        refine tn_aload_n dX1_append_99 rfl 1 rfl ?_
        refine tn_getR (ci := 1) (i := 0) (n := 5) (x := x) dX1_append_100 rfl lay_1 (by decide) fl1_9 ha rfl rfl (rc_F F31 (Or.inl (by decide)) (by decide) (rc_o (by decide) (hx))) ?_
        refine tn_iload dX1_append_103 0 rfl ?_
        refine tn_iconst dX1_append_105 ?_
        refine tn_iadd dX1_append_106 ?_
        refine tn_iload_n dX1_append_107 rfl 2 rfl ?_
        refine tn_iast (z := ((σ.2.1 6 a) * 13) + 0) (v := k) dX1_append_108 hk3i (by omega) (by omega) (by omega) ?_
        refine tn_aload_n dX1_append_109 rfl 1 rfl ?_
        refine tn_getR (ci := 1) (i := 0) (n := 5) (x := x) dX1_append_110 rfl lay_1 (by decide) fl1_9 ha rfl rfl (rc_a (Or.inl (by decide)) (rc_F F31 (Or.inl (by decide)) (by decide) (rc_o (by decide) (hx)))) ?_
        refine tn_iload dX1_append_113 0 rfl ?_
        refine tn_iconst dX1_append_115 ?_
        refine tn_iadd dX1_append_116 ?_
        refine tn_iload_n dX1_append_117 rfl 3 rfl ?_
        refine tn_iast (z := ((σ.2.1 6 a) * 13) + 1) (v := p) dX1_append_118 hk3i (by omega) (by omega) (by omega) ?_
        refine tn_aload_n dX1_append_119 rfl 1 rfl ?_
        refine tn_getR (ci := 1) (i := 0) (n := 5) (x := x) dX1_append_120 rfl lay_1 (by decide) fl1_9 ha rfl rfl (rc_a (Or.inl (by decide)) (rc_a (Or.inl (by decide)) (rc_F F31 (Or.inl (by decide)) (by decide) (rc_o (by decide) (hx))))) ?_
        refine tn_iload dX1_append_123 0 rfl ?_
        refine tn_iconst dX1_append_125 ?_
        refine tn_iadd dX1_append_126 ?_
        refine tn_iload_n dX1_append_127 rfl 4 rfl ?_
        refine tn_iast (z := ((σ.2.1 6 a) * 13) + 2) (v := q) dX1_append_128 hk3i (by omega) (by omega) (by omega) ?_
        exact tn_vret rfl dX1_append_129 ⟨rfl, (((w30.arr (Or.inl hk3i) (vok_13 (by have q9 := hk3; omega) (by omega) (fun _ q => by omega))).arr (Or.inl hk3i) (vok_13 (by have q9 := hk3; omega) (by omega) (fun _ q => by omega))).arr (Or.inl hk3i) (vok_13 (by have q9 := hk3; omega) (by omega) (fun _ q => by omega))), (((((FrC.rfl.put (by decide) (by decide)).trans (FrC.sub F31 (by decide))).arr (hk_no (nh_k hk3 (by unfold HT; omega)))).arr (hk_no (nh_k hk3 (by unfold HT; omega)))).arr (hk_no (nh_k hk3 (by unfold HT; omega)))), (((((CHN.rfl.fld (by simp) (by decide)).trans (CHN.of f27 (by simp) (fun z q => Or.inl (by revert q; simp; try omega)) (by simp))).arr (Or.inl (by simp))).arr (Or.inl (by simp))).arr (Or.inl (by simp))), ((show (sA (1000 + x) (((σ.2.1 6 a) * 13) + 2) (q) (sA (1000 + x) (((σ.2.1 6 a) * 13) + 1) (p) (sA (1000 + x) (((σ.2.1 6 a) * 13) + 0) (k) σ24))).2.1 6 a = (σ.2.1 6 a) + 1 from rc_a (Or.inl (by decide)) (rc_a (Or.inl (by decide)) (rc_a (Or.inl (by decide)) (rc_F F31 (Or.inl (by decide)) (by decide) (ra_eq))))).trans (by omega)), ⟨x, rc_a (Or.inl (by decide)) (rc_a (Or.inl (by decide)) (rc_a (Or.inl (by decide)) (rc_F F31 (Or.inl (by decide)) (by decide) (rc_o (by decide) (hx))))), Or.inl rfl, fun q9 => by rw [← hW]; exact cw_app (R1 := (sA 6 a ((σ.2.1 6 a) + 1) σ).2.1 (1000 + x)) (fun z _ _ => by rw [sA_k (by omega)]) f28 (by omega) (by omega) (by omega) (by omega) (by omega) (by omega)⟩⟩
    · refine tn_aload_n dX1_append_42 rfl 1 rfl ?_
      refine tn_aload_n dX1_append_43 rfl 1 rfl ?_
      refine tn_getR (ci := 1) (i := 0) (n := 5) (x := x) dX1_append_44 rfl lay_1 (by decide) fl1_9 ha rfl rfl (rc_o (by decide) (hx)) ?_
      refine tn_sipush dX1_append_47 (by decide) ?_
      refine tn_iconst dX1_append_50 ?_
      refine tn_aload_n dX1_append_51 rfl 1 rfl ?_
      refine tn_getR (ci := 1) (i := 0) (n := 5) (x := x) dX1_append_52 rfl lay_1 (by decide) fl1_9 ha rfl rfl (rc_o (by decide) (hx)) ?_
      refine tn_alenX dX1_append_55 (Or.inl hk3i) ?_
      refine tn_imul dX1_append_56 ?_
      refine tn_mmin (x := 2600) (y := 2 * (((T x).2 : Int))) dX1_append_57 mlm1_57 stM_min iniM cdM_min (by omega) (Nat.le_of_ble_eq_true rfl) ⟨by omega, by omega⟩ ⟨by omega, by omega⟩ (fun z32 g33 => ?_)
      obtain ⟨N44, N44e⟩ : ∃ N : Nat, z32 = (N : Int) := ⟨(z32).toNat, by omega⟩
      refine tn_callS (M := m_X1_append) (pc := 60) (ix := 66) (M' := m_J7_copyOf_59c91) (As := [.ref x, .int (iI z32)]) (rest := [.ref a]) dX1_append_60 ok_J7_copyOf_59c91 stt_J7_copyOf_59c91 ml1_66 np_J7_copyOf_59c91 rfl (Nat.le_of_ble_eq_true rfl) (Nat.le_of_ble_eq_true rfl) rfl (k_copyOfX (d + 1) (T := T) (σ := (sA 6 a ((σ.2.1 6 a) + 1) σ)) (a := x) (z := z32) (N := N44) hk3i (by omega) (fun i => by rw [sA_k (by omega)]; exact (hw.2.2.1 x (Or.inl hk3i) i)) N44e (by omega) (by omega)) (fun r34 T35 σ36 gt37 hp => ?_)
      obtain ⟨x38, f39, rfl, hx40, hT41, hs42, hf43, hf43x⟩ := hp
      show Tn _ _ 63 T35 σ36 [(4, .int (iI ((σ.2.1 6 a) * 13))), (0, .ref a), (1, .int (iI k)), (2, .int (iI p)), (3, .int (iI q))] [.ref x38, .ref a] _
      have ob53 := ha
      replace ha : OB T35 a 1 := gt37.ob ha
      replace hta : (T35 a).1 = 31 := gt37.kk hta (by decide) (by decide)
      refine tn_putV (ci := 1) (i := 0) (n := 5) (r := true) (v := (x38 : Int)) tyX1 tyX1_ok nmX1 dX1_append_63 rfl lay_1 (by decide) fl1_9 rfl (tyX1_ok 0 (by decide)) (vl_ref rfl).symm rfl rfl (gt37.ob ob53) rfl rfl ?_
      obtain ⟨σ45, h46⟩ : ∃ s, s = (sA 5 a (x38 : Int) σ36) := ⟨_, rfl⟩
      rw [← h46]
      have w47 : WT T35 σ45 := by
        rw [h46, hs42, hT41]
        exact WTx.app (hw.put6x (fo_6 ⟨by omega, by omega⟩)) ob53 (rc_o (by decide) (hx)) hx40 hf43 ⟨by omega, by omega⟩ (by omega) (by omega) (by rw [show (sA 6 a ((σ.2.1 6 a) + 1) σ).2.1 6 a = (σ.2.1 6 a) + 1 from ra_eq]; omega)
      have F48 : FrC T [5, 6] σ σ45 := by
        rw [h46, hs42]
        exact FrC.put (FrC.row (FrC.gh (FrC.rfl.put (by decide) (by decide))) (hk_no (by unfold NH HT; omega))) (by decide) (by decide)
      have c49 : σ45.2.1 6 a = (σ.2.1 6 a) + 1 := by rw [h46, hs42]; exact rc_o (by decide) (rc_r (Or.inl (by decide)) (ra_eq))
      have q50 : σ45.2.1 5 a = (x38 : Int) := by rw [h46]; exact ra_eq
      have l51 : (T35 x38).2 = N44 := by rw [hT41, tT_eq]
      obtain ⟨cx52, cx52i⟩ := cell_of w47 (gt37.ob ob53) q50
      have cx52t : (T35 x38).1 = 13 := cx52.2 (by omega)
      show Tn _ _ 66 T35 σ45 [(4, .int (iI ((σ.2.1 6 a) * 13))), (0, .ref a), (1, .int (iI k)), (2, .int (iI p)), (3, .int (iI q))] [] _
      have ch54 : CHN T [(5, a), (6, a)] [] [] σ σ45 := by rw [h46, hs42]; exact CHN.fld (CHN.row (CHN.gh (CHN.fld CHN.rfl (by simp) (by decide))) (Or.inr hx40)) (by simp) (by decide)
      have ct55 : ∀ z, 0 ≤ z → z < ((T x).2 : Int) → σ45.2.1 (1000 + x38) z = σ.2.1 (1000 + x) z := fun z z0 z1 => by rw [h46, hs42, sA_k (by omega), rowS_eq]; have q7 := hf43x z z0 z1; rw [sA_k (by omega)] at q7; exact q7
      refine tn_iload dX1_append_66 0 rfl ?_
      refine tn_if_lt (tgt := 129) dX1_append_68 (by decide) ⟨by omega, by omega⟩ (fun h56 => absurd h56 (by omega)) (fun h56 => ?_)
      refine tn_iload dX1_append_71 0 rfl ?_
      refine tn_bipush dX1_append_73 (by decide) ?_
      refine tn_iadd dX1_append_75 ?_
      refine tn_aload_n dX1_append_76 rfl 1 rfl ?_
      refine tn_getR (ci := 1) (i := 0) (n := 5) (x := x38) dX1_append_77 rfl lay_1 (by decide) fl1_9 ha rfl rfl (q50) ?_
      refine tn_alenX dX1_append_80 (Or.inl cx52i) ?_
      refine tn_icmp_gt (tgt := 129) dX1_append_81 (by decide) ⟨by omega, by omega⟩ ⟨by omega, by omega⟩ (fun h57 => ?_) (fun h57 => ?_)
      · exact tn_vret rfl dX1_append_129 ⟨rfl, w47, (FrC.rfl.trans (FrC.sub F48 (by decide))), (CHN.rfl.trans (CHN.sub ch54 (by simp) (by simp) (by simp))), False.elim (by omega), False.elim (by omega)⟩
      · refine tn_aload_n dX1_append_84 rfl 1 rfl ?_
        refine tn_getR (ci := 1) (i := 0) (n := 5) (x := x38) dX1_append_85 rfl lay_1 (by decide) fl1_9 ha rfl rfl (q50) ?_
        refine tn_iload dX1_append_88 0 rfl ?_
        refine tn_iload dX1_append_90 0 rfl ?_
        refine tn_bipush dX1_append_92 (by decide) ?_
        refine tn_iadd dX1_append_94 ?_
        refine tn_iconst dX1_append_95 ?_
        refine tn_callS (M := m_X1_append) (pc := 96) (ix := 72) (M' := m_J7_fill_fda19) (As := [.ref x38, .int (iI ((σ.2.1 6 a) * 13)), .int (iI (((σ.2.1 6 a) * 13) + 13)), .int (iI 0)]) (rest := []) dX1_append_96 ok_J7_fill_fda19 stt_J7_fill_fda19 ml1_72 np_J7_fill_fda19 rfl (Nat.le_of_ble_eq_true rfl) (Nat.le_of_ble_eq_true rfl) rfl (k_J7_fill_fda19_x (d) (T := T35) (σ := σ45) (x := x38) (f := (σ.2.1 6 a) * 13) (t := ((σ.2.1 6 a) * 13) + 13) (y := 0) cx52i (by omega) (by omega) (by omega) (by decide) w47 (nh_k cx52t (by unfold HT; omega)) (by omega) (by omega)) (fun r58 T60 σ59 gt61 hp => ?_)
        obtain ⟨rfl, rfl, w65, F66, f62, f63⟩ := hp
        clear gt61
        show Tn _ _ 99 T35 σ59 [(4, .int (iI ((σ.2.1 6 a) * 13))), (0, .ref a), (1, .int (iI k)), (2, .int (iI p)), (3, .int (iI q))] [] _
        refine tn_aload_n dX1_append_99 rfl 1 rfl ?_
        refine tn_getR (ci := 1) (i := 0) (n := 5) (x := x38) dX1_append_100 rfl lay_1 (by decide) fl1_9 ha rfl rfl (rc_F F66 (Or.inl (by decide)) (by decide) (q50)) ?_
        refine tn_iload dX1_append_103 0 rfl ?_
        refine tn_iconst dX1_append_105 ?_
        refine tn_iadd dX1_append_106 ?_
        refine tn_iload_n dX1_append_107 rfl 2 rfl ?_
        refine tn_iast (z := ((σ.2.1 6 a) * 13) + 0) (v := k) dX1_append_108 cx52i (by omega) (by omega) (by omega) ?_
        refine tn_aload_n dX1_append_109 rfl 1 rfl ?_
        refine tn_getR (ci := 1) (i := 0) (n := 5) (x := x38) dX1_append_110 rfl lay_1 (by decide) fl1_9 ha rfl rfl (rc_a (Or.inl (by decide)) (rc_F F66 (Or.inl (by decide)) (by decide) (q50))) ?_
        refine tn_iload dX1_append_113 0 rfl ?_
        refine tn_iconst dX1_append_115 ?_
        refine tn_iadd dX1_append_116 ?_
        refine tn_iload_n dX1_append_117 rfl 3 rfl ?_
        refine tn_iast (z := ((σ.2.1 6 a) * 13) + 1) (v := p) dX1_append_118 cx52i (by omega) (by omega) (by omega) ?_
        refine tn_aload_n dX1_append_119 rfl 1 rfl ?_
        refine tn_getR (ci := 1) (i := 0) (n := 5) (x := x38) dX1_append_120 rfl lay_1 (by decide) fl1_9 ha rfl rfl (rc_a (Or.inl (by decide)) (rc_a (Or.inl (by decide)) (rc_F F66 (Or.inl (by decide)) (by decide) (q50)))) ?_
        refine tn_iload dX1_append_123 0 rfl ?_
        refine tn_iconst dX1_append_125 ?_
        refine tn_iadd dX1_append_126 ?_
        refine tn_iload_n dX1_append_127 rfl 4 rfl ?_
        refine tn_iast (z := ((σ.2.1 6 a) * 13) + 2) (v := q) dX1_append_128 cx52i (by omega) (by omega) (by omega) ?_
        exact tn_vret rfl dX1_append_129 ⟨rfl, (((w65.arr (Or.inl cx52i) (vok_13 (by have q9 := cx52t; omega) (by omega) (fun _ q => by omega))).arr (Or.inl cx52i) (vok_13 (by have q9 := cx52t; omega) (by omega) (fun _ q => by omega))).arr (Or.inl cx52i) (vok_13 (by have q9 := cx52t; omega) (by omega) (fun _ q => by omega))), (((((FrC.rfl.trans (FrC.sub F48 (by decide))).trans (FrC.sub (FrC.old F66 gt37) (by decide))).arr (hk_no (GT.nh gt37 (nh_k cx52t (by unfold HT; omega))))).arr (hk_no (GT.nh gt37 (nh_k cx52t (by unfold HT; omega))))).arr (hk_no (GT.nh gt37 (nh_k cx52t (by unfold HT; omega))))), (((((CHN.rfl.trans (CHN.sub ch54 (by simp) (by simp) (by simp))).trans (CHN.of f62 (by simp) (fun z q => by rw [List.mem_singleton.mp q]; exact (Or.inr hx40)) (by simp))).arr (Or.inr hx40)).arr (Or.inr hx40)).arr (Or.inr hx40)), ((show (sA (1000 + x38) (((σ.2.1 6 a) * 13) + 2) (q) (sA (1000 + x38) (((σ.2.1 6 a) * 13) + 1) (p) (sA (1000 + x38) (((σ.2.1 6 a) * 13) + 0) (k) σ59))).2.1 6 a = σ45.2.1 6 a from rc_a (Or.inl (by decide)) (rc_a (Or.inl (by decide)) (rc_a (Or.inl (by decide)) (rc_F F66 (Or.inl (by decide)) (by decide) (rfl))))).trans (by omega)), ⟨x38, rc_a (Or.inl (by decide)) (rc_a (Or.inl (by decide)) (rc_a (Or.inl (by decide)) (rc_F F66 (Or.inl (by decide)) (by decide) (q50)))), Or.inr hx40, fun q9 => by rw [← hW]; exact cw_app (R1 := σ45.2.1 (1000 + x38)) (fun z z0 z1 => ct55 z z0 (by omega)) f63 (by omega) (by omega) (by omega) (by omega) (by omega) (by omega)⟩⟩
end
section
set_option maxHeartbeats 1000000 in
set_option maxRecDepth 20000 in
theorem k_X1_lastOperand_x (d : Nat) {T : CT} {σ : MS} {a : Nat} {i : Int} {k : Int} {p : Int} {x : Nat} {n : Int} {W : Int → It} (ha : OB T a 1) (hta : (T a).1 = 31) (h_i : -2147483648 ≤ i ∧ i ≤ 2147483647) (h_k : -2147483648 ≤ k ∧ k ≤ 2147483647) (h_p : -2147483648 ≤ p ∧ p ≤ 2147483647) (hw : WT T σ) (hx : σ.2.1 5 a = (x : Int)) (hn : σ.2.1 6 a = n) (hW : cW σ x n = W) (hc : 1 ≤ n ∧ n ≤ 5000) (hi : 0 ≤ i ∧ i ≤ 3) : Tn (d + 1) m_X1_lastOperand 0 T σ [(0, .ref a), (1, .int (iI i)), (2, .int (iI k)), (3, .int (iI p))] [] (fun ro T2 σ2 => ro = none ∧ T = T2 ∧ WT T2 σ2 ∧ FrC T [] σ σ2 ∧ (CHX [] [x] [] σ σ2) ∧ (LOQ σ2 x n W i k p)) := by
  obtain ⟨hl4, hk3a, hk3b⟩ := cel_of (wf_5 hw ha) hx
  have hk3 : (T x).1 = 13 := hk3b (by omega)
  clear hk3a hk3b
  have hk3i : IA T x := by unfold IA; omega
  have g5 : 13 * σ.2.1 6 a ≤ ((T x).2 : Int) ∨ 2600 ≤ (T x).2 := hw.2.1 a x ha hx
  refine tn_aload_n dX1_lastOperand_0 rfl 0 rfl ?_
  refine tn_getI (ci := 1) (i := 1) (n := 6) (t := σ.2.1 6 a) dX1_lastOperand_1 rfl lay_1 (by decide) fl1_33 ha rfl rfl (rfl) ?_
  have g6 : ((0 : Int) ≤ σ.2.1 6 a ∧ σ.2.1 6 a ≤ 5000) ∧ ((T a).1 = 50 → σ.2.1 6 a ≤ 200) := wf_6 hw ha
  have g6x := g6.2
  replace g6 := g6.1
  clear g6x
  refine tn_iconst dX1_lastOperand_4 ?_
  refine tn_isub dX1_lastOperand_5 ?_
  refine tn_bipush dX1_lastOperand_6 (by decide) ?_
  refine tn_imul dX1_lastOperand_8 ?_
  refine tn_iconst dX1_lastOperand_9 ?_
  refine tn_iadd dX1_lastOperand_10 ?_
  refine tn_iconst dX1_lastOperand_11 ?_
  refine tn_iload_n dX1_lastOperand_12 rfl 1 rfl ?_
  refine tn_imul dX1_lastOperand_13 ?_
  refine tn_iadd dX1_lastOperand_14 ?_
  refine tn_istore (L' := [(4, .int (iI (((((σ.2.1 6 a) - 1) * 13) + 3) + (2 * i)))), (0, .ref a), (1, .int (iI i)), (2, .int (iI k)), (3, .int (iI p))]) dX1_lastOperand_15 (by decide) rfl ?_
  refine tn_iload_n dX1_lastOperand_17 rfl 2 rfl ?_
  refine tn_if_lt (tgt := 61) dX1_lastOperand_18 (by decide) ⟨by omega, by omega⟩ (fun h7 => absurd h7 (by omega)) (fun h7 => ?_)
  refine tn_iload_n dX1_lastOperand_21 rfl 2 rfl ?_
  refine tn_iconst dX1_lastOperand_22 ?_
  refine tn_icmp_ge (tgt := 61) dX1_lastOperand_23 (by decide) ⟨by omega, by omega⟩ ⟨by decide, by decide⟩ (fun h8 => absurd h8 (by omega)) (fun h8 => ?_)
  refine tn_iload dX1_lastOperand_26 0 rfl ?_
  refine tn_if_lt (tgt := 61) dX1_lastOperand_28 (by decide) ⟨by omega, by omega⟩ (fun h9 => ?_) (fun h9 => ?_)
  · have g10 : 13 * σ.2.1 6 a ≤ ((T x).2 : Int) ∨ 2600 ≤ (T x).2 := hw.2.1 a x ha hx
    exact tn_vret rfl dX1_lastOperand_61 ⟨rfl, rfl, hw, FrC.rfl, CHX.rfl, (fun q9 => False.elim (by omega))⟩
  · refine tn_iload dX1_lastOperand_31 0 rfl ?_
    refine tn_iconst dX1_lastOperand_33 ?_
    refine tn_iadd dX1_lastOperand_34 ?_
    refine tn_aload_n dX1_lastOperand_35 rfl 1 rfl ?_
    refine tn_getR (ci := 1) (i := 0) (n := 5) (x := x) dX1_lastOperand_36 rfl lay_1 (by decide) fl1_9 ha rfl rfl (hx) ?_
    refine tn_alenX dX1_lastOperand_39 (Or.inl hk3i) ?_
    refine tn_icmp_ge (tgt := 61) dX1_lastOperand_40 (by decide) ⟨by omega, by omega⟩ ⟨by omega, by omega⟩ (fun h11 => ?_) (fun h11 => ?_)
    · have g12 : 13 * σ.2.1 6 a ≤ ((T x).2 : Int) ∨ 2600 ≤ (T x).2 := hw.2.1 a x ha hx
      exact tn_vret rfl dX1_lastOperand_61 ⟨rfl, rfl, hw, FrC.rfl, CHX.rfl, (fun q9 => False.elim (by omega))⟩
    · refine tn_aload_n dX1_lastOperand_43 rfl 1 rfl ?_
      refine tn_getR (ci := 1) (i := 0) (n := 5) (x := x) dX1_lastOperand_44 rfl lay_1 (by decide) fl1_9 ha rfl rfl (hx) ?_
      refine tn_iload dX1_lastOperand_47 0 rfl ?_
      refine tn_iload_n dX1_lastOperand_49 rfl 3 rfl ?_
      refine tn_iast (z := ((((σ.2.1 6 a) - 1) * 13) + 3) + (2 * i)) (v := k) dX1_lastOperand_50 hk3i (by omega) (by omega) (by omega) ?_
      refine tn_aload_n dX1_lastOperand_51 rfl 1 rfl ?_
      refine tn_getR (ci := 1) (i := 0) (n := 5) (x := x) dX1_lastOperand_52 rfl lay_1 (by decide) fl1_9 ha rfl rfl (rc_a (Or.inl (by decide)) (hx)) ?_
      refine tn_iload dX1_lastOperand_55 0 rfl ?_
      refine tn_iconst dX1_lastOperand_57 ?_
      refine tn_iadd dX1_lastOperand_58 ?_
      refine tn_iload_n dX1_lastOperand_59 rfl 4 rfl ?_
      refine tn_iast (z := (((((σ.2.1 6 a) - 1) * 13) + 3) + (2 * i)) + 1) (v := p) dX1_lastOperand_60 hk3i (by omega) (by omega) (by omega) ?_
      exact tn_vret rfl dX1_lastOperand_61 ⟨rfl, rfl, ((hw.arr (Or.inl hk3i) (vok_13 (by have q9 := hk3; omega) (by omega) (fun _ q => by omega))).arr (Or.inl hk3i) (vok_13 (by have q9 := hk3; omega) (by omega) (fun _ q => by omega))), ((FrC.rfl.arr (hk_no (nh_k hk3 (by unfold HT; omega)))).arr (hk_no (nh_k hk3 (by unfold HT; omega)))), ((CHX.rfl.arr (by simp)).arr (by simp)), (fun q9 => by rw [← hW]; exact cw_lop (by omega) ⟨by omega, by omega⟩ (by omega) (by omega))⟩
end
section
set_option maxHeartbeats 1000000 in
set_option maxRecDepth 20000 in
theorem k_X1_empty_x (d : Nat) {T : CT} {σ : MS} {a : Nat} {r : Int} {xR : Nat} {Hr : Int → Int} {xP : Nat} {Hp : Int → Int} {xL : Nat} {Hl : Int → Int} {xn : Nat} {Hn : Int → Int} (ha : OB T a 1) (hta : (T a).1 = 31) (h_r : -2147483648 ≤ r ∧ r ≤ 2147483647) (hw : WT T σ) (hxR : σ.2.1 11 a = (xR : Int)) (hHr : σ.2.1 (1000 + xR) = Hr) (hxP : σ.2.1 12 a = (xP : Int)) (hHp : σ.2.1 (1000 + xP) = Hp) (hxL : σ.2.1 13 a = (xL : Int)) (hHl : σ.2.1 (1000 + xL) = Hl) (hxn : σ.2.1 14 a = (xn : Int)) (hHn : σ.2.1 (1000 + xn) = Hn) (hds : DS [xR, xP, xL, xn]) : Tn (d + 2) m_X1_empty 0 T σ [(0, .ref a), (1, .int (iI r))] [] (fun ro T2 σ2 => ro = none ∧ T = T2 ∧ WT T2 σ2 ∧ FrC T [6, 7, 8, 9, 10] σ σ2 ∧ (CHX [(6, a), (7, a), (8, a), (9, a), (10, a)] [xR, xP, xL, xn] [] σ σ2) ∧ ((σ2.2.1 6 a = 0 ∧ σ2.2.1 7 a = 0 ∧ σ2.2.1 8 a = 0 ∧ σ2.2.1 9 a = 0) ∧ σ2.2.1 10 a = 1) ∧ (σ2.2.1 (1000 + xR) 0 = r) ∧ (σ2.2.1 (1000 + xP) 0 = -1) ∧ (σ2.2.1 (1000 + xL) 0 = 0) ∧ (σ2.2.1 (1000 + xn) 0 = 0)) := by
  refine tn_aload_n dX1_empty_0 rfl 0 rfl ?_
  refine tn_iconst dX1_empty_1 ?_
  obtain ⟨x1, hx2, hl4, hk3a, hk3b⟩ := wf_5 hw ha
  have hk3 : (T x1).1 = 13 := hk3b (by omega)
  clear hk3a hk3b
  have hk3i : IA T x1 := by unfold IA; omega
  refine tn_putV (ci := 1) (i := 1) (n := 6) (r := false) (v := 0) tyX1 tyX1_ok nmX1 dX1_empty_2 rfl lay_1 (by decide) fl1_33 rfl (tyX1_ok 1 (by decide)) rfl rfl rfl ha rfl rfl ?_
  refine tn_aload_n dX1_empty_5 rfl 0 rfl ?_
  refine tn_iconst dX1_empty_6 ?_
  refine tn_putV (ci := 1) (i := 2) (n := 7) (r := false) (v := 0) tyX1 tyX1_ok nmX1 dX1_empty_7 rfl lay_1 (by decide) fl1_37 rfl (tyX1_ok 2 (by decide)) rfl rfl rfl ha rfl rfl ?_
  refine tn_aload_n dX1_empty_10 rfl 0 rfl ?_
  refine tn_iconst dX1_empty_11 ?_
  refine tn_putV (ci := 1) (i := 3) (n := 8) (r := false) (v := 0) tyX1 tyX1_ok nmX1 dX1_empty_12 rfl lay_1 (by decide) fl1_40 rfl (tyX1_ok 3 (by decide)) rfl rfl rfl ha rfl rfl ?_
  refine tn_aload_n dX1_empty_15 rfl 0 rfl ?_
  refine tn_iconst dX1_empty_16 ?_
  refine tn_putV (ci := 1) (i := 4) (n := 9) (r := false) (v := 0) tyX1 tyX1_ok nmX1 dX1_empty_17 rfl lay_1 (by decide) fl1_43 rfl (tyX1_ok 4 (by decide)) rfl rfl rfl ha rfl rfl ?_
  refine tn_aload_n dX1_empty_20 rfl 0 rfl ?_
  refine tn_iconst dX1_empty_21 ?_
  refine tn_putV (ci := 1) (i := 5) (n := 10) (r := false) (v := 1) tyX1 tyX1_ok nmX1 dX1_empty_22 rfl lay_1 (by decide) fl1_46 rfl (tyX1_ok 5 (by decide)) rfl rfl rfl ha rfl rfl ?_
  refine tn_aload_n dX1_empty_25 rfl 0 rfl ?_
  obtain ⟨hk7, hl8⟩ : AR T xR 1 12 12 := ar_of (wf_11 hw ha) hxR
  have hk7i : IA T xR := by unfold IA; omega
  refine tn_getR (ci := 1) (i := 6) (n := 11) (x := xR) dX1_empty_26 rfl lay_1 (by decide) fl1_15 ha rfl rfl (rc_o (by decide) (rc_o (by decide) (rc_o (by decide) (rc_o (by decide) (rc_o (by decide) (hxR)))))) ?_
  refine tn_iconst dX1_empty_29 ?_
  refine tn_iload_n dX1_empty_30 rfl 1 rfl ?_
  have cv9 : (sA 10 a (1) (sA 9 a (0) (sA 8 a (0) (sA 7 a (0) (sA 6 a (0) σ))))).2.1 (1000 + xR) = Hr := (rv_fld (by decide)).trans ((rv_fld (by decide)).trans ((rv_fld (by decide)).trans ((rv_fld (by decide)).trans ((rv_fld (by decide)).trans (hHr)))))
  refine tn_callSN (M := m_X1_empty) (pc := 31) (ix := 49) (M' := m_X11_put) (As := [.ref xR, .int (iI 0), .int (iI r)]) (rest := []) dX1_empty_31 ok_X11_put stt_X11_put nl1_49 np_X11_put rfl (Nat.le_of_ble_eq_true rfl) (Nat.le_of_ble_eq_true rfl) rfl (k_X11_put_x (d) (T := T) (σ := (sA 10 a (1) (sA 9 a (0) (sA 8 a (0) (sA 7 a (0) (sA 6 a (0) σ)))))) (x := xR) (i := 0) (y := r) hk7i (by omega) (by decide) (by omega) (((((hw.put6 (hx2) (fo_6 ⟨by omega, by omega⟩) (Or.inl (by omega))).put (by decide) (by decide) (fo_7 (by omega))).put (by decide) (by decide) (fo_8 (by omega))).put (by decide) (by decide) (fo_9 (by omega))).put (by decide) (by decide) (fo_10 (by omega))) (nh_k hk7 (by unfold HT; omega)) (vok_1 (by have q9 := hk7; omega) (by omega))) (fun r10 T12 σ11 gt13 hp => ?_)
  obtain ⟨rfl, rfl, w17, F18, f14, f15⟩ := hp
  clear gt13
  show Tn _ _ 34 T σ11 [(0, .ref a), (1, .int (iI r))] [] _
  refine tn_aload_n dX1_empty_34 rfl 0 rfl ?_
  obtain ⟨hk21, hl22⟩ : AR T xP 1 12 12 := ar_of (wf_12 hw ha) hxP
  have hk21i : IA T xP := by unfold IA; omega
  refine tn_getR (ci := 1) (i := 7) (n := 12) (x := xP) dX1_empty_35 rfl lay_1 (by decide) fl1_18 ha rfl rfl (rc_F F18 (Or.inl (by decide)) (by decide) (rc_o (by decide) (rc_o (by decide) (rc_o (by decide) (rc_o (by decide) (rc_o (by decide) (hxP))))))) ?_
  refine tn_iconst dX1_empty_38 ?_
  refine tn_iconst dX1_empty_39 ?_
  have cv23 : σ11.2.1 (1000 + xP) = Hp := (CHX.r f14 (by simp only [List.mem_cons, List.not_mem_nil, or_false, not_or]; exact (hds.ne (i := 1) (j := 0) rfl rfl (by decide)))).trans ((rv_fld (by decide)).trans ((rv_fld (by decide)).trans ((rv_fld (by decide)).trans ((rv_fld (by decide)).trans ((rv_fld (by decide)).trans (hHp))))))
  refine tn_callSN (M := m_X1_empty) (pc := 40) (ix := 49) (M' := m_X11_put) (As := [.ref xP, .int (iI 0), .int (iI (-1))]) (rest := []) dX1_empty_40 ok_X11_put stt_X11_put nl1_49 np_X11_put rfl (Nat.le_of_ble_eq_true rfl) (Nat.le_of_ble_eq_true rfl) rfl (k_X11_put_x (d) (T := T) (σ := σ11) (x := xP) (i := 0) (y := -1) hk21i (by omega) (by decide) (by decide) w17 (nh_k hk21 (by unfold HT; omega)) (vok_1 (by have q9 := hk21; omega) (by omega))) (fun r24 T26 σ25 gt27 hp => ?_)
  obtain ⟨rfl, rfl, w31, F32, f28, f29⟩ := hp
  clear gt27
  show Tn _ _ 43 T σ25 [(0, .ref a), (1, .int (iI r))] [] _
  refine tn_aload_n dX1_empty_43 rfl 0 rfl ?_
  obtain ⟨hk35, hl36⟩ : AR T xL 1 12 12 := ar_of (wf_13 hw ha) hxL
  have hk35i : IA T xL := by unfold IA; omega
  refine tn_getR (ci := 1) (i := 8) (n := 13) (x := xL) dX1_empty_44 rfl lay_1 (by decide) fl1_21 ha rfl rfl (rc_F F32 (Or.inl (by decide)) (by decide) (rc_F F18 (Or.inl (by decide)) (by decide) (rc_o (by decide) (rc_o (by decide) (rc_o (by decide) (rc_o (by decide) (rc_o (by decide) (hxL)))))))) ?_
  refine tn_iconst dX1_empty_47 ?_
  refine tn_iconst dX1_empty_48 ?_
  have cv37 : σ25.2.1 (1000 + xL) = Hl := (CHX.r f28 (by simp only [List.mem_cons, List.not_mem_nil, or_false, not_or]; exact (hds.ne (i := 2) (j := 1) rfl rfl (by decide)))).trans ((CHX.r f14 (by simp only [List.mem_cons, List.not_mem_nil, or_false, not_or]; exact (hds.ne (i := 2) (j := 0) rfl rfl (by decide)))).trans ((rv_fld (by decide)).trans ((rv_fld (by decide)).trans ((rv_fld (by decide)).trans ((rv_fld (by decide)).trans ((rv_fld (by decide)).trans (hHl)))))))
  refine tn_callSN (M := m_X1_empty) (pc := 49) (ix := 49) (M' := m_X11_put) (As := [.ref xL, .int (iI 0), .int (iI 0)]) (rest := []) dX1_empty_49 ok_X11_put stt_X11_put nl1_49 np_X11_put rfl (Nat.le_of_ble_eq_true rfl) (Nat.le_of_ble_eq_true rfl) rfl (k_X11_put_x (d) (T := T) (σ := σ25) (x := xL) (i := 0) (y := 0) hk35i (by omega) (by decide) (by decide) w31 (nh_k hk35 (by unfold HT; omega)) vok_0) (fun r38 T40 σ39 gt41 hp => ?_)
  obtain ⟨rfl, rfl, w45, F46, f42, f43⟩ := hp
  clear gt41
  show Tn _ _ 52 T σ39 [(0, .ref a), (1, .int (iI r))] [] _
  refine tn_aload_n dX1_empty_52 rfl 0 rfl ?_
  obtain ⟨hk49, hl50⟩ : AR T xn 11 12 12 := ar_of (wf_14 hw ha) hxn
  have hk49i : IA T xn := by unfold IA; omega
  refine tn_getR (ci := 1) (i := 9) (n := 14) (x := xn) dX1_empty_53 rfl lay_1 (by decide) fl1_24 ha rfl rfl (rc_F F46 (Or.inl (by decide)) (by decide) (rc_F F32 (Or.inl (by decide)) (by decide) (rc_F F18 (Or.inl (by decide)) (by decide) (rc_o (by decide) (rc_o (by decide) (rc_o (by decide) (rc_o (by decide) (rc_o (by decide) (hxn))))))))) ?_
  refine tn_iconst dX1_empty_56 ?_
  refine tn_iconst dX1_empty_57 ?_
  have cv51 : σ39.2.1 (1000 + xn) = Hn := (CHX.r f42 (by simp only [List.mem_cons, List.not_mem_nil, or_false, not_or]; exact (hds.ne (i := 3) (j := 2) rfl rfl (by decide)))).trans ((CHX.r f28 (by simp only [List.mem_cons, List.not_mem_nil, or_false, not_or]; exact (hds.ne (i := 3) (j := 1) rfl rfl (by decide)))).trans ((CHX.r f14 (by simp only [List.mem_cons, List.not_mem_nil, or_false, not_or]; exact (hds.ne (i := 3) (j := 0) rfl rfl (by decide)))).trans ((rv_fld (by decide)).trans ((rv_fld (by decide)).trans ((rv_fld (by decide)).trans ((rv_fld (by decide)).trans ((rv_fld (by decide)).trans (hHn))))))))
  refine tn_callSN (M := m_X1_empty) (pc := 58) (ix := 49) (M' := m_X11_put) (As := [.ref xn, .int (iI 0), .int (iI 0)]) (rest := []) dX1_empty_58 ok_X11_put stt_X11_put nl1_49 np_X11_put rfl (Nat.le_of_ble_eq_true rfl) (Nat.le_of_ble_eq_true rfl) rfl (k_X11_put_x (d) (T := T) (σ := σ39) (x := xn) (i := 0) (y := 0) hk49i (by omega) (by decide) (by decide) w45 (nh_k hk49 (by unfold HT; omega)) vok_0) (fun r52 T54 σ53 gt55 hp => ?_)
  obtain ⟨rfl, rfl, w59, F60, f56, f57⟩ := hp
  clear gt55
  show Tn _ _ 61 T σ53 [(0, .ref a), (1, .int (iI r))] [] _
  have cv61 : σ53.2.1 (1000 + xR) = σ11.2.1 (1000 + xR) := (CHX.r f56 (by simp only [List.mem_cons, List.not_mem_nil, or_false, not_or]; exact (hds.ne (i := 0) (j := 3) rfl rfl (by decide)))).trans ((CHX.r f42 (by simp only [List.mem_cons, List.not_mem_nil, or_false, not_or]; exact (hds.ne (i := 0) (j := 2) rfl rfl (by decide)))).trans ((CHX.r f28 (by simp only [List.mem_cons, List.not_mem_nil, or_false, not_or]; exact (hds.ne (i := 0) (j := 1) rfl rfl (by decide)))).trans (rfl)))
  have cv62 : σ53.2.1 (1000 + xP) = σ25.2.1 (1000 + xP) := (CHX.r f56 (by simp only [List.mem_cons, List.not_mem_nil, or_false, not_or]; exact (hds.ne (i := 1) (j := 3) rfl rfl (by decide)))).trans ((CHX.r f42 (by simp only [List.mem_cons, List.not_mem_nil, or_false, not_or]; exact (hds.ne (i := 1) (j := 2) rfl rfl (by decide)))).trans (rfl))
  have cv63 : σ53.2.1 (1000 + xL) = σ39.2.1 (1000 + xL) := (CHX.r f56 (by simp only [List.mem_cons, List.not_mem_nil, or_false, not_or]; exact (hds.ne (i := 2) (j := 3) rfl rfl (by decide)))).trans (rfl)
  exact tn_vret rfl dX1_empty_61 ⟨rfl, rfl, w59, (((((((((FrC.rfl.put (by decide) (by decide)).put (by decide) (by decide)).put (by decide) (by decide)).put (by decide) (by decide)).put (by decide) (by decide)).trans (FrC.sub F18 (by decide))).trans (FrC.sub F32 (by decide))).trans (FrC.sub F46 (by decide))).trans (FrC.sub F60 (by decide))), (((((((((CHX.rfl.fld (by simp) (by decide)).fld (by simp) (by decide)).fld (by simp) (by decide)).fld (by simp) (by decide)).fld (by simp) (by decide)).trans (CHX.sub f14 (by simp) (by simp) (by simp))).trans (CHX.sub f28 (by simp) (by simp) (by simp))).trans (CHX.sub f42 (by simp) (by simp) (by simp))).trans (CHX.sub f56 (by simp) (by simp) (by simp))), ⟨⟨((show σ53.2.1 6 a = 0 from rc_F F60 (Or.inl (by decide)) (by decide) (rc_F F46 (Or.inl (by decide)) (by decide) (rc_F F32 (Or.inl (by decide)) (by decide) (rc_F F18 (Or.inl (by decide)) (by decide) (rc_o (by decide) (rc_o (by decide) (rc_o (by decide) (rc_o (by decide) (ra_eq))))))))).trans (by omega)), ((show σ53.2.1 7 a = 0 from rc_F F60 (Or.inl (by decide)) (by decide) (rc_F F46 (Or.inl (by decide)) (by decide) (rc_F F32 (Or.inl (by decide)) (by decide) (rc_F F18 (Or.inl (by decide)) (by decide) (rc_o (by decide) (rc_o (by decide) (rc_o (by decide) (ra_eq)))))))).trans (by omega)), ((show σ53.2.1 8 a = 0 from rc_F F60 (Or.inl (by decide)) (by decide) (rc_F F46 (Or.inl (by decide)) (by decide) (rc_F F32 (Or.inl (by decide)) (by decide) (rc_F F18 (Or.inl (by decide)) (by decide) (rc_o (by decide) (rc_o (by decide) (ra_eq))))))).trans (by omega)), ((show σ53.2.1 9 a = 0 from rc_F F60 (Or.inl (by decide)) (by decide) (rc_F F46 (Or.inl (by decide)) (by decide) (rc_F F32 (Or.inl (by decide)) (by decide) (rc_F F18 (Or.inl (by decide)) (by decide) (rc_o (by decide) (ra_eq)))))).trans (by omega))⟩, ((show σ53.2.1 10 a = 1 from rc_F F60 (Or.inl (by decide)) (by decide) (rc_F F46 (Or.inl (by decide)) (by decide) (rc_F F32 (Or.inl (by decide)) (by decide) (rc_F F18 (Or.inl (by decide)) (by decide) (ra_eq))))).trans (by omega))⟩, ((congrFun (cv61.trans ((ptf_row f15 ⟨by omega, by omega⟩).trans (by rw [cv9]))) 0).trans uZ_eq), ((congrFun (cv62.trans ((ptf_row f29 ⟨by omega, by omega⟩).trans (by rw [cv23]))) 0).trans uZ_eq), ((congrFun (cv63.trans ((ptf_row f43 ⟨by omega, by omega⟩).trans (by rw [cv37]))) 0).trans uZ_eq), ((congrFun ((ptf_row f57 ⟨by omega, by omega⟩).trans (by rw [cv51])) 0).trans uZ_eq)⟩
end
section
set_option maxHeartbeats 1000000 in
set_option maxRecDepth 20000 in
theorem k_X1_copyFrom_x (d : Nat) {T : CT} {σ : MS} {a : Nat} {p1 : Nat} {x : Nat} {y : Nat} {m : Int} {xR : Nat} {xP : Nat} {xL : Nat} {xn : Nat} {xh : Nat} {yR : Nat} {yP : Nat} {yL : Nat} {yn : Nat} {yh : Nat} (ha : OB T a 1) (hta : (T a).1 = 50) (h_p1 : OB T p1 1) (t_p1 : (T p1).1 = 31) (hw : WT T σ) (hx : σ.2.1 5 a = (x : Int)) (hy : σ.2.1 5 p1 = (y : Int)) (hm : σ.2.1 6 p1 = m) (hxR : σ.2.1 11 a = (xR : Int)) (hxP : σ.2.1 12 a = (xP : Int)) (hxL : σ.2.1 13 a = (xL : Int)) (hxn : σ.2.1 14 a = (xn : Int)) (hxh : σ.2.1 15 a = (xh : Int)) (hyR : σ.2.1 11 p1 = (yR : Int)) (hyP : σ.2.1 12 p1 = (yP : Int)) (hyL : σ.2.1 13 p1 = (yL : Int)) (hyn : σ.2.1 14 p1 = (yn : Int)) (hyh : σ.2.1 15 p1 = (yh : Int)) (hm2 : m ≤ 200) (hap : a ≠ p1) (hds : DS [x, xR, xP, xL, xn, xh, y, yR, yP, yL, yn, yh]) : Tn (d + 3) m_X1_copyFrom 0 T σ [(0, .ref a), (1, .ref p1)] [] (fun ro T2 σ2 => ro = none ∧ WT T2 σ2 ∧ FrC T [5, 6, 7, 8, 9, 10] σ σ2 ∧ (CHN T [(5, a), (6, a), (7, a), (8, a), (9, a), (10, a)] [x, xR, xP, xL, xn, xh] [] σ σ2) ∧ ((σ2.2.1 6 a = m ∧ σ2.2.1 7 a = σ.2.1 7 p1 ∧ σ2.2.1 8 a = σ.2.1 8 p1 ∧ σ2.2.1 9 a = σ.2.1 9 p1) ∧ σ2.2.1 10 a = σ.2.1 10 p1) ∧ (CPQ T σ σ2 a x y m xR xP xL xn xh yR yP yL yn yh)) := by
  have hb8 : OB T p1 1 := ⟨by omega, by rw [t_p1]; rfl, by omega⟩
  have k_x := (cel_of (wf_5 hw ha) hx).2.1 hta
  have k_y := (cel_of (wf_5 hw hb8) hy).2.2 (by omega)
  have n_h := wf_6 hw hb8
  have k_xR := (ar_of (wf_11 hw ha) hxR).1
  have k_xP := (ar_of (wf_12 hw ha) hxP).1
  have k_xL := (ar_of (wf_13 hw ha) hxL).1
  have k_xn := (ar_of (wf_14 hw ha) hxn).1
  have k_xh := (ar_of (wf_15 hw ha) hxh).1
  have k_yR := (ar_of (wf_11 hw hb8) hyR).1
  have k_yP := (ar_of (wf_12 hw hb8) hyP).1
  have k_yL := (ar_of (wf_13 hw hb8) hyL).1
  have k_yn := (ar_of (wf_14 hw hb8) hyn).1
  have k_yh := (ar_of (wf_15 hw hb8) hyh).1
  refine tn_aload_n dX1_copyFrom_0 rfl 0 rfl ?_
  refine tn_aload_n dX1_copyFrom_1 rfl 1 rfl ?_
  refine tn_getI (ci := 1) (i := 1) (n := 6) (t := σ.2.1 6 p1) dX1_copyFrom_2 rfl lay_1 (by decide) fl1_33 h_p1 rfl rfl (rfl) ?_
  have g1 : ((0 : Int) ≤ σ.2.1 6 p1 ∧ σ.2.1 6 p1 ≤ 5000) ∧ ((T p1).1 = 50 → σ.2.1 6 p1 ≤ 200) := wf_6 hw h_p1
  have g1x := g1.2
  replace g1 := g1.1
  clear g1x
  obtain ⟨hl5, hk4a, hk4b⟩ := cel_of (wf_5 hw ha) hx
  have hk4 : (T x).1 = 1 := hk4a (by omega)
  clear hk4a hk4b
  have hk4i : IA T x := by unfold IA; omega
  refine tn_callV (M := m_X1_copyFrom) (pc := 5) (ix := 76) (ci := 1) (M' := m_X1_holdRows) (As := [.int (iI (σ.2.1 6 p1))]) (rest := []) dX1_copyFrom_5 ok_X1_holdRows im_X1_holdRows se_X1_holdRows ml1_76 np_X1_holdRows rfl rfl ha rfl (Nat.le_of_ble_eq_true rfl) (Nat.le_of_ble_eq_true rfl) rfl (k_X1_holdRows_x (d) (T := T) (σ := σ) (a := a) (m := σ.2.1 6 p1) (x := x) ha hta (by omega) hw (hx) (by omega)) (fun r6 T8 σ7 gt9 hp => ?_)
  obtain ⟨v14, rfl, w15, F16, f10, f11, f12, f13⟩ := hp
  replace ha : OB T8 a 1 := gt9.ob ha
  replace hta : (T8 a).1 = 50 := gt9.kk hta (by decide) (by decide)
  replace t_p1 : (T8 p1).1 = 31 := gt9.kk t_p1 (by decide) (by decide)
  replace h_p1 : OB T8 p1 1 := gt9.ob h_p1
  show Tn _ _ 8 T8 σ7 [(0, .ref a), (1, .ref p1)] [.int (iI v14)] _
  refine tn_if_ne (tgt := 12) dX1_copyFrom_8 (by decide) ⟨by omega, by omega⟩ (fun h17 => ?_) (fun h17 => ?_)
  · obtain ⟨x29, e59, ex9, el9, ec9⟩ := f13
    obtain ⟨x18, hx19, hl21, hk20a, hk20b⟩ := wf_5 w15 ha
    have hk20 : (T8 x18).1 = 1 := hk20a (by omega)
    clear hk20a hk20b
    have hk20i : IA T8 x18 := by unfold IA; omega
    have e29 : x29 = x18 := by have z : σ7.2.1 5 a = (x18 : Int) := hx19; omega
    rw [e29] at ex9 el9 ec9
    have g69 : σ7.2.1 6 p1 = m := rc_F F16 (Or.inl (by decide)) (by decide) (hm)
    have g79 : σ7.2.1 7 p1 = σ.2.1 7 p1 := rc_F F16 (Or.inl (by decide)) (by decide) (rfl)
    have g89 : σ7.2.1 8 p1 = σ.2.1 8 p1 := rc_F F16 (Or.inl (by decide)) (by decide) (rfl)
    have g99 : σ7.2.1 9 p1 = σ.2.1 9 p1 := rc_F F16 (Or.inl (by decide)) (by decide) (rfl)
    have g109 : σ7.2.1 10 p1 = σ.2.1 10 p1 := rc_F F16 (Or.inl (by decide)) (by decide) (rfl)
    refine tn_aload_n dX1_copyFrom_12 rfl 0 rfl ?_
    refine tn_aload_n dX1_copyFrom_13 rfl 1 rfl ?_
    refine tn_getI (ci := 1) (i := 1) (n := 6) (t := σ7.2.1 6 p1) dX1_copyFrom_14 rfl lay_1 (by decide) fl1_33 h_p1 rfl rfl (rfl) ?_
    have g22 : ((0 : Int) ≤ σ7.2.1 6 p1 ∧ σ7.2.1 6 p1 ≤ 5000) ∧ ((T8 p1).1 = 50 → σ7.2.1 6 p1 ≤ 200) := wf_6 w15 h_p1
    have g22x := g22.2
    replace g22 := g22.1
    clear g22x
    refine tn_putV (ci := 1) (i := 1) (n := 6) (r := false) (v := σ7.2.1 6 p1) tyX1 tyX1_ok nmX1 dX1_copyFrom_17 rfl lay_1 (by decide) fl1_33 rfl (tyX1_ok 1 (by decide)) rfl rfl rfl ha rfl rfl ?_
    refine tn_aload_n dX1_copyFrom_20 rfl 0 rfl ?_
    refine tn_aload_n dX1_copyFrom_21 rfl 1 rfl ?_
    refine tn_getI (ci := 1) (i := 2) (n := 7) (t := σ7.2.1 7 p1) dX1_copyFrom_22 rfl lay_1 (by decide) fl1_37 h_p1 rfl rfl (rc_o (by decide) (rfl)) ?_
    have g23 : ((0 : Int) ≤ σ7.2.1 7 p1 ∧ σ7.2.1 7 p1 ≤ 12) := wf_7 w15 h_p1
    refine tn_putV (ci := 1) (i := 2) (n := 7) (r := false) (v := σ7.2.1 7 p1) tyX1 tyX1_ok nmX1 dX1_copyFrom_25 rfl lay_1 (by decide) fl1_37 rfl (tyX1_ok 2 (by decide)) rfl rfl rfl ha rfl rfl ?_
    refine tn_aload_n dX1_copyFrom_28 rfl 0 rfl ?_
    refine tn_aload_n dX1_copyFrom_29 rfl 1 rfl ?_
    refine tn_getI (ci := 1) (i := 3) (n := 8) (t := σ7.2.1 8 p1) dX1_copyFrom_30 rfl lay_1 (by decide) fl1_40 h_p1 rfl rfl (rc_o (by decide) (rc_o (by decide) (rfl))) ?_
    have g24 : ((0 : Int) ≤ σ7.2.1 8 p1 ∧ σ7.2.1 8 p1 ≤ 4) := wf_8 w15 h_p1
    refine tn_putV (ci := 1) (i := 3) (n := 8) (r := false) (v := σ7.2.1 8 p1) tyX1 tyX1_ok nmX1 dX1_copyFrom_33 rfl lay_1 (by decide) fl1_40 rfl (tyX1_ok 3 (by decide)) rfl rfl rfl ha rfl rfl ?_
    refine tn_aload_n dX1_copyFrom_36 rfl 0 rfl ?_
    refine tn_aload_n dX1_copyFrom_37 rfl 1 rfl ?_
    refine tn_getI (ci := 1) (i := 4) (n := 9) (t := σ7.2.1 9 p1) dX1_copyFrom_38 rfl lay_1 (by decide) fl1_43 h_p1 rfl rfl (rc_o (by decide) (rc_o (by decide) (rc_o (by decide) (rfl)))) ?_
    have g25 : ((-2147483648 : Int) ≤ σ7.2.1 9 p1 ∧ σ7.2.1 9 p1 ≤ 2147483647) := wf_9 w15 h_p1
    refine tn_putV (ci := 1) (i := 4) (n := 9) (r := false) (v := σ7.2.1 9 p1) tyX1 tyX1_ok nmX1 dX1_copyFrom_41 rfl lay_1 (by decide) fl1_43 rfl (tyX1_ok 4 (by decide)) rfl rfl rfl ha rfl rfl ?_
    refine tn_aload_n dX1_copyFrom_44 rfl 0 rfl ?_
    refine tn_aload_n dX1_copyFrom_45 rfl 1 rfl ?_
    refine tn_getI (ci := 1) (i := 5) (n := 10) (t := σ7.2.1 10 p1) dX1_copyFrom_46 rfl lay_1 (by decide) fl1_46 h_p1 rfl rfl (rc_o (by decide) (rc_o (by decide) (rc_o (by decide) (rc_o (by decide) (rfl))))) ?_
    have g26 : ((0 : Int) ≤ σ7.2.1 10 p1 ∧ σ7.2.1 10 p1 ≤ 12) := wf_10 w15 h_p1
    refine tn_putV (ci := 1) (i := 5) (n := 10) (r := false) (v := σ7.2.1 10 p1) tyX1 tyX1_ok nmX1 dX1_copyFrom_49 rfl lay_1 (by decide) fl1_46 rfl (tyX1_ok 5 (by decide)) rfl rfl rfl ha rfl rfl ?_
    obtain ⟨σ27, h28⟩ : ∃ s, s = (sA 10 a (σ7.2.1 10 p1) (sA 9 a (σ7.2.1 9 p1) (sA 8 a (σ7.2.1 8 p1) (sA 7 a (σ7.2.1 7 p1) (sA 6 a (σ7.2.1 6 p1) σ7))))) := ⟨_, rfl⟩
    rw [← h28]
    have w29 : WT T8 σ27 := by rw [h28]; exact (((((w15.put6 (hx19) (fo_6 ⟨by omega, by omega⟩) (by omega)).put (by decide) (by decide) (fo_7 (by omega))).put (by decide) (by decide) (fo_8 (by omega))).put (by decide) (by decide) (fo_9 (by omega))).put (by decide) (by decide) (fo_10 (by omega)))
    have F30 : FrC T [6, 7, 8, 9, 10] σ7 σ27 := by rw [h28]; exact (((((FrC.rfl.put (by decide) (by decide)).put (by decide) (by decide)).put (by decide) (by decide)).put (by decide) (by decide)).put (by decide) (by decide))
    have c31 : CHX [(6, a), (7, a), (8, a), (9, a), (10, a)] [] [] σ7 σ27 := by rw [h28]; exact (((((CHX.rfl.fld (by simp) (by decide)).fld (by simp) (by decide)).fld (by simp) (by decide)).fld (by simp) (by decide)).fld (by simp) (by decide))
    have σ27q6 : σ27.2.1 6 a = σ7.2.1 6 p1 := by rw [h28]; exact rc_o (by decide) (rc_o (by decide) (rc_o (by decide) (rc_o (by decide) (ra_eq))))
    have σ27q7 : σ27.2.1 7 a = σ7.2.1 7 p1 := by rw [h28]; exact rc_o (by decide) (rc_o (by decide) (rc_o (by decide) (ra_eq)))
    have σ27q8 : σ27.2.1 8 a = σ7.2.1 8 p1 := by rw [h28]; exact rc_o (by decide) (rc_o (by decide) (ra_eq))
    have σ27q9 : σ27.2.1 9 a = σ7.2.1 9 p1 := by rw [h28]; exact rc_o (by decide) (ra_eq)
    have σ27q10 : σ27.2.1 10 a = σ7.2.1 10 p1 := by rw [h28]; exact ra_eq
    have s69 : ∀ z : Nat, σ27.2.1 (1000 + z) = σ7.2.1 (1000 + z) := fun z => c31.2.1 z (by simp)
    obtain ⟨x32, hx33, hk34, hl35⟩ : ∃ x : Nat, σ7.2.1 11 a = (x : Int) ∧ AR T8 x 1 12 12 := wf_11 w15 ha
    have hk34i : IA T8 x32 := by unfold IA; omega
    have exR9 : x32 = xR := by have z1 : σ27.2.1 11 a = (x32 : Int) := (rc_F F30 (Or.inl (by decide)) (by decide) (hx33)); have z2 : σ27.2.1 11 a = (xR : Int) := rc_F F30 (Or.inl (by decide)) (by decide) (rc_F F16 (Or.inl (by decide)) (by decide) (hxR)); omega
    obtain ⟨x36, hx37, hk38, hl39⟩ : ∃ x : Nat, σ7.2.1 12 a = (x : Int) ∧ AR T8 x 1 12 12 := wf_12 w15 ha
    have hk38i : IA T8 x36 := by unfold IA; omega
    have exP9 : x36 = xP := by have z1 : σ27.2.1 12 a = (x36 : Int) := (rc_F F30 (Or.inl (by decide)) (by decide) (hx37)); have z2 : σ27.2.1 12 a = (xP : Int) := rc_F F30 (Or.inl (by decide)) (by decide) (rc_F F16 (Or.inl (by decide)) (by decide) (hxP)); omega
    obtain ⟨x40, hx41, hk42, hl43⟩ : ∃ x : Nat, σ7.2.1 13 a = (x : Int) ∧ AR T8 x 1 12 12 := wf_13 w15 ha
    have hk42i : IA T8 x40 := by unfold IA; omega
    have exL9 : x40 = xL := by have z1 : σ27.2.1 13 a = (x40 : Int) := (rc_F F30 (Or.inl (by decide)) (by decide) (hx41)); have z2 : σ27.2.1 13 a = (xL : Int) := rc_F F30 (Or.inl (by decide)) (by decide) (rc_F F16 (Or.inl (by decide)) (by decide) (hxL)); omega
    obtain ⟨x44, hx45, hk46, hl47⟩ : ∃ x : Nat, σ7.2.1 14 a = (x : Int) ∧ AR T8 x 11 12 12 := wf_14 w15 ha
    have hk46i : IA T8 x44 := by unfold IA; omega
    have exn9 : x44 = xn := by have z1 : σ27.2.1 14 a = (x44 : Int) := (rc_F F30 (Or.inl (by decide)) (by decide) (hx45)); have z2 : σ27.2.1 14 a = (xn : Int) := rc_F F30 (Or.inl (by decide)) (by decide) (rc_F F16 (Or.inl (by decide)) (by decide) (hxn)); omega
    obtain ⟨x48, hx49, hk50, hl51⟩ : ∃ x : Nat, σ7.2.1 15 a = (x : Int) ∧ AR T8 x 1 144 144 := wf_15 w15 ha
    have hk50i : IA T8 x48 := by unfold IA; omega
    have exh9 : x48 = xh := by have z1 : σ27.2.1 15 a = (x48 : Int) := (rc_F F30 (Or.inl (by decide)) (by decide) (hx49)); have z2 : σ27.2.1 15 a = (xh : Int) := rc_F F30 (Or.inl (by decide)) (by decide) (rc_F F16 (Or.inl (by decide)) (by decide) (hxh)); omega
    obtain ⟨x52, hx53, hl55, hk54a, hk54b⟩ := wf_5 w15 h_p1
    have hk54 : (T8 x52).1 = 13 := hk54b (by omega)
    clear hk54a hk54b
    have hk54i : IA T8 x52 := by unfold IA; omega
    have ey9 : x52 = y := by have z1 : σ27.2.1 5 p1 = (x52 : Int) := (rc_F F30 (Or.inl (by decide)) (by decide) (hx53)); have z2 : σ27.2.1 5 p1 = (y : Int) := rc_F F30 (Or.inl (by decide)) (by decide) (Eq.trans (CHN.f (a := p1) f11 (by decide) (by first | (simp; done) | (simp; omega))) (hy)); omega
    obtain ⟨x56, hx57, hk58, hl59⟩ : ∃ x : Nat, σ7.2.1 11 p1 = (x : Int) ∧ AR T8 x 1 12 12 := wf_11 w15 h_p1
    have hk58i : IA T8 x56 := by unfold IA; omega
    have eyR9 : x56 = yR := by have z1 : σ27.2.1 11 p1 = (x56 : Int) := (rc_F F30 (Or.inl (by decide)) (by decide) (hx57)); have z2 : σ27.2.1 11 p1 = (yR : Int) := rc_F F30 (Or.inl (by decide)) (by decide) (rc_F F16 (Or.inl (by decide)) (by decide) (hyR)); omega
    obtain ⟨x60, hx61, hk62, hl63⟩ : ∃ x : Nat, σ7.2.1 12 p1 = (x : Int) ∧ AR T8 x 1 12 12 := wf_12 w15 h_p1
    have hk62i : IA T8 x60 := by unfold IA; omega
    have eyP9 : x60 = yP := by have z1 : σ27.2.1 12 p1 = (x60 : Int) := (rc_F F30 (Or.inl (by decide)) (by decide) (hx61)); have z2 : σ27.2.1 12 p1 = (yP : Int) := rc_F F30 (Or.inl (by decide)) (by decide) (rc_F F16 (Or.inl (by decide)) (by decide) (hyP)); omega
    obtain ⟨x64, hx65, hk66, hl67⟩ : ∃ x : Nat, σ7.2.1 13 p1 = (x : Int) ∧ AR T8 x 1 12 12 := wf_13 w15 h_p1
    have hk66i : IA T8 x64 := by unfold IA; omega
    have eyL9 : x64 = yL := by have z1 : σ27.2.1 13 p1 = (x64 : Int) := (rc_F F30 (Or.inl (by decide)) (by decide) (hx65)); have z2 : σ27.2.1 13 p1 = (yL : Int) := rc_F F30 (Or.inl (by decide)) (by decide) (rc_F F16 (Or.inl (by decide)) (by decide) (hyL)); omega
    obtain ⟨x68, hx69, hk70, hl71⟩ : ∃ x : Nat, σ7.2.1 14 p1 = (x : Int) ∧ AR T8 x 11 12 12 := wf_14 w15 h_p1
    have hk70i : IA T8 x68 := by unfold IA; omega
    have eyn9 : x68 = yn := by have z1 : σ27.2.1 14 p1 = (x68 : Int) := (rc_F F30 (Or.inl (by decide)) (by decide) (hx69)); have z2 : σ27.2.1 14 p1 = (yn : Int) := rc_F F30 (Or.inl (by decide)) (by decide) (rc_F F16 (Or.inl (by decide)) (by decide) (hyn)); omega
    obtain ⟨x72, hx73, hk74, hl75⟩ : ∃ x : Nat, σ7.2.1 15 p1 = (x : Int) ∧ AR T8 x 1 144 144 := wf_15 w15 h_p1
    have hk74i : IA T8 x72 := by unfold IA; omega
    have eyh9 : x72 = yh := by have z1 : σ27.2.1 15 p1 = (x72 : Int) := (rc_F F30 (Or.inl (by decide)) (by decide) (hx73)); have z2 : σ27.2.1 15 p1 = (yh : Int) := rc_F F30 (Or.inl (by decide)) (by decide) (rc_F F16 (Or.inl (by decide)) (by decide) (hyh)); omega
    have g76 : 13 * σ7.2.1 6 p1 ≤ ((T8 x52).2 : Int) ∨ 2600 ≤ (T8 x52).2 := w15.2.1 p1 x52 h_p1 hx53
    have hd9 : DS [x18, x32, x36, x40, x44, x48, x52, x56, x60, x64, x68, x72] := by rw [exR9, exP9, exL9, exn9, exh9, ey9, eyR9, eyP9, eyL9, eyn9, eyh9]; exact hds.fr ex9 (fun z q => by simp only [List.mem_cons, List.not_mem_nil, or_false] at q; rcases q with rfl | rfl | rfl | rfl | rfl | rfl | rfl | rfl | rfl | rfl | rfl <;> omega)
    refine tn_aload_n dX1_copyFrom_52 rfl 1 rfl ?_
    refine tn_getR (ci := 1) (i := 0) (n := 5) (x := x52) dX1_copyFrom_53 rfl lay_1 (by decide) fl1_9 h_p1 rfl rfl (rc_F F30 (Or.inl (by decide)) (by decide) (hx53)) ?_
    refine tn_iconst dX1_copyFrom_56 ?_
    refine tn_aload_n dX1_copyFrom_57 rfl 0 rfl ?_
    refine tn_getR (ci := 1) (i := 0) (n := 5) (x := x18) dX1_copyFrom_58 rfl lay_1 (by decide) fl1_9 ha rfl rfl (rc_F F30 (Or.inl (by decide)) (by decide) (hx19)) ?_
    refine tn_iconst dX1_copyFrom_61 ?_
    refine tn_aload_n dX1_copyFrom_62 rfl 0 rfl ?_
    refine tn_getI (ci := 1) (i := 1) (n := 6) (t := σ27.2.1 6 a) dX1_copyFrom_63 rfl lay_1 (by decide) fl1_33 ha rfl rfl (rfl) ?_
    have g77 : ((0 : Int) ≤ σ27.2.1 6 a ∧ σ27.2.1 6 a ≤ 5000) ∧ ((T8 a).1 = 50 → σ27.2.1 6 a ≤ 200) := wf_6 w29 ha
    have g77x := g77.2
    replace g77 := g77.1
    have g77x := g77x hta
    refine tn_bipush dX1_copyFrom_66 (by decide) ?_
    refine tn_imul dX1_copyFrom_68 ?_
    refine tn_acopyI (a := x52) (b := x18) (sp := 0) (dp := 0) (n := (σ27.2.1 6 a) * 13) dX1_copyFrom_69 mla1_80 acNat acSt acIni hk54i hk20i ⟨by omega, by omega⟩ (by omega) (by omega) (by omega) (by omega) (by omega) (by omega) (Nat.le_of_ble_eq_true rfl) ?_
    obtain ⟨σ78, h79⟩ : ∃ s, s = (rowS (1000 + x18) (cpZ (σ27.2.1 (1000 + x52)) (σ27.2.1 (1000 + x18)) (0) (0) ((σ27.2.1 6 a) * 13)) σ27) := ⟨_, rfl⟩
    rw [← h79]
    have w80 : WT T8 σ78 := by rw [h79]; exact (w29.row (Or.inl hk20i) (vok_cp1 w29 hk54i hk20i (by have q9 := hk20; omega)))
    have F81 : FrC T [] σ27 σ78 := by rw [h79]; exact (FrC.rfl.row (hk_no (GT.nh gt9 (nh_k hk20 (by unfold HT; omega)))))
    have c82 : CHX [] [x18] [] σ27 σ78 := by rw [h79]; exact (CHX.rfl.row (by simp))
    refine tn_aload_n dX1_copyFrom_72 rfl 1 rfl ?_
    refine tn_getR (ci := 1) (i := 6) (n := 11) (x := x56) dX1_copyFrom_73 rfl lay_1 (by decide) fl1_15 h_p1 rfl rfl (rc_F F81 (Or.inl (by decide)) (by decide) (rc_F F30 (Or.inl (by decide)) (by decide) (hx57))) ?_
    refine tn_iconst dX1_copyFrom_76 ?_
    refine tn_aload_n dX1_copyFrom_77 rfl 0 rfl ?_
    refine tn_getR (ci := 1) (i := 6) (n := 11) (x := x32) dX1_copyFrom_78 rfl lay_1 (by decide) fl1_15 ha rfl rfl (rc_F F81 (Or.inl (by decide)) (by decide) (rc_F F30 (Or.inl (by decide)) (by decide) (hx33))) ?_
    refine tn_iconst dX1_copyFrom_81 ?_
    refine tn_bipush dX1_copyFrom_82 (by decide) ?_
    refine tn_acopyI (a := x56) (b := x32) (sp := 0) (dp := 0) (n := 12) dX1_copyFrom_84 mla1_80 acNat acSt acIni hk58i hk34i ⟨by omega, by omega⟩ (by omega) (by omega) (by omega) (by omega) (by omega) (by omega) (Nat.le_of_ble_eq_true rfl) ?_
    obtain ⟨σ83, h84⟩ : ∃ s, s = (rowS (1000 + x32) (cpZ (σ78.2.1 (1000 + x56)) (σ78.2.1 (1000 + x32)) (0) (0) (12)) σ78) := ⟨_, rfl⟩
    rw [← h84]
    have w85 : WT T8 σ83 := by rw [h84]; exact (w80.row (Or.inl hk34i) (vok_cp1 w80 hk58i hk34i (by have q9 := hk34; omega)))
    have F86 : FrC T [] σ78 σ83 := by rw [h84]; exact (FrC.rfl.row (hk_no (GT.nh gt9 (nh_k hk34 (by unfold HT; omega)))))
    have c87 : CHX [] [x32] [] σ78 σ83 := by rw [h84]; exact (CHX.rfl.row (by simp))
    refine tn_aload_n dX1_copyFrom_87 rfl 1 rfl ?_
    refine tn_getR (ci := 1) (i := 7) (n := 12) (x := x60) dX1_copyFrom_88 rfl lay_1 (by decide) fl1_18 h_p1 rfl rfl (rc_F F86 (Or.inl (by decide)) (by decide) (rc_F F81 (Or.inl (by decide)) (by decide) (rc_F F30 (Or.inl (by decide)) (by decide) (hx61)))) ?_
    refine tn_iconst dX1_copyFrom_91 ?_
    refine tn_aload_n dX1_copyFrom_92 rfl 0 rfl ?_
    refine tn_getR (ci := 1) (i := 7) (n := 12) (x := x36) dX1_copyFrom_93 rfl lay_1 (by decide) fl1_18 ha rfl rfl (rc_F F86 (Or.inl (by decide)) (by decide) (rc_F F81 (Or.inl (by decide)) (by decide) (rc_F F30 (Or.inl (by decide)) (by decide) (hx37)))) ?_
    refine tn_iconst dX1_copyFrom_96 ?_
    refine tn_bipush dX1_copyFrom_97 (by decide) ?_
    refine tn_acopyI (a := x60) (b := x36) (sp := 0) (dp := 0) (n := 12) dX1_copyFrom_99 mla1_80 acNat acSt acIni hk62i hk38i ⟨by omega, by omega⟩ (by omega) (by omega) (by omega) (by omega) (by omega) (by omega) (Nat.le_of_ble_eq_true rfl) ?_
    obtain ⟨σ88, h89⟩ : ∃ s, s = (rowS (1000 + x36) (cpZ (σ83.2.1 (1000 + x60)) (σ83.2.1 (1000 + x36)) (0) (0) (12)) σ83) := ⟨_, rfl⟩
    rw [← h89]
    have w90 : WT T8 σ88 := by rw [h89]; exact (w85.row (Or.inl hk38i) (vok_cp1 w85 hk62i hk38i (by have q9 := hk38; omega)))
    have F91 : FrC T [] σ83 σ88 := by rw [h89]; exact (FrC.rfl.row (hk_no (GT.nh gt9 (nh_k hk38 (by unfold HT; omega)))))
    have c92 : CHX [] [x36] [] σ83 σ88 := by rw [h89]; exact (CHX.rfl.row (by simp))
    refine tn_aload_n dX1_copyFrom_102 rfl 1 rfl ?_
    refine tn_getR (ci := 1) (i := 8) (n := 13) (x := x64) dX1_copyFrom_103 rfl lay_1 (by decide) fl1_21 h_p1 rfl rfl (rc_F F91 (Or.inl (by decide)) (by decide) (rc_F F86 (Or.inl (by decide)) (by decide) (rc_F F81 (Or.inl (by decide)) (by decide) (rc_F F30 (Or.inl (by decide)) (by decide) (hx65))))) ?_
    refine tn_iconst dX1_copyFrom_106 ?_
    refine tn_aload_n dX1_copyFrom_107 rfl 0 rfl ?_
    refine tn_getR (ci := 1) (i := 8) (n := 13) (x := x40) dX1_copyFrom_108 rfl lay_1 (by decide) fl1_21 ha rfl rfl (rc_F F91 (Or.inl (by decide)) (by decide) (rc_F F86 (Or.inl (by decide)) (by decide) (rc_F F81 (Or.inl (by decide)) (by decide) (rc_F F30 (Or.inl (by decide)) (by decide) (hx41))))) ?_
    refine tn_iconst dX1_copyFrom_111 ?_
    refine tn_bipush dX1_copyFrom_112 (by decide) ?_
    refine tn_acopyI (a := x64) (b := x40) (sp := 0) (dp := 0) (n := 12) dX1_copyFrom_114 mla1_80 acNat acSt acIni hk66i hk42i ⟨by omega, by omega⟩ (by omega) (by omega) (by omega) (by omega) (by omega) (by omega) (Nat.le_of_ble_eq_true rfl) ?_
    obtain ⟨σ93, h94⟩ : ∃ s, s = (rowS (1000 + x40) (cpZ (σ88.2.1 (1000 + x64)) (σ88.2.1 (1000 + x40)) (0) (0) (12)) σ88) := ⟨_, rfl⟩
    rw [← h94]
    have w95 : WT T8 σ93 := by rw [h94]; exact (w90.row (Or.inl hk42i) (vok_cp1 w90 hk66i hk42i (by have q9 := hk42; omega)))
    have F96 : FrC T [] σ88 σ93 := by rw [h94]; exact (FrC.rfl.row (hk_no (GT.nh gt9 (nh_k hk42 (by unfold HT; omega)))))
    have c97 : CHX [] [x40] [] σ88 σ93 := by rw [h94]; exact (CHX.rfl.row (by simp))
    refine tn_aload_n dX1_copyFrom_117 rfl 1 rfl ?_
    refine tn_getR (ci := 1) (i := 9) (n := 14) (x := x68) dX1_copyFrom_118 rfl lay_1 (by decide) fl1_24 h_p1 rfl rfl (rc_F F96 (Or.inl (by decide)) (by decide) (rc_F F91 (Or.inl (by decide)) (by decide) (rc_F F86 (Or.inl (by decide)) (by decide) (rc_F F81 (Or.inl (by decide)) (by decide) (rc_F F30 (Or.inl (by decide)) (by decide) (hx69)))))) ?_
    refine tn_iconst dX1_copyFrom_121 ?_
    refine tn_aload_n dX1_copyFrom_122 rfl 0 rfl ?_
    refine tn_getR (ci := 1) (i := 9) (n := 14) (x := x44) dX1_copyFrom_123 rfl lay_1 (by decide) fl1_24 ha rfl rfl (rc_F F96 (Or.inl (by decide)) (by decide) (rc_F F91 (Or.inl (by decide)) (by decide) (rc_F F86 (Or.inl (by decide)) (by decide) (rc_F F81 (Or.inl (by decide)) (by decide) (rc_F F30 (Or.inl (by decide)) (by decide) (hx45)))))) ?_
    refine tn_iconst dX1_copyFrom_126 ?_
    refine tn_bipush dX1_copyFrom_127 (by decide) ?_
    refine tn_acopyI (a := x68) (b := x44) (sp := 0) (dp := 0) (n := 12) dX1_copyFrom_129 mla1_80 acNat acSt acIni hk70i hk46i ⟨by omega, by omega⟩ (by omega) (by omega) (by omega) (by omega) (by omega) (by omega) (Nat.le_of_ble_eq_true rfl) ?_
    obtain ⟨σ98, h99⟩ : ∃ s, s = (rowS (1000 + x44) (cpZ (σ93.2.1 (1000 + x68)) (σ93.2.1 (1000 + x44)) (0) (0) (12)) σ93) := ⟨_, rfl⟩
    rw [← h99]
    have w100 : WT T8 σ98 := by rw [h99]; exact (w95.row (Or.inl hk46i) (vok_cp11 w95 hk70 hk46))
    have F101 : FrC T [] σ93 σ98 := by rw [h99]; exact (FrC.rfl.row (hk_no (GT.nh gt9 (nh_k hk46 (by unfold HT; omega)))))
    have c102 : CHX [] [x44] [] σ93 σ98 := by rw [h99]; exact (CHX.rfl.row (by simp))
    refine tn_aload_n dX1_copyFrom_132 rfl 1 rfl ?_
    refine tn_getR (ci := 1) (i := 10) (n := 15) (x := x72) dX1_copyFrom_133 rfl lay_1 (by decide) fl1_27 h_p1 rfl rfl (rc_F F101 (Or.inl (by decide)) (by decide) (rc_F F96 (Or.inl (by decide)) (by decide) (rc_F F91 (Or.inl (by decide)) (by decide) (rc_F F86 (Or.inl (by decide)) (by decide) (rc_F F81 (Or.inl (by decide)) (by decide) (rc_F F30 (Or.inl (by decide)) (by decide) (hx73))))))) ?_
    refine tn_iconst dX1_copyFrom_136 ?_
    refine tn_aload_n dX1_copyFrom_137 rfl 0 rfl ?_
    refine tn_getR (ci := 1) (i := 10) (n := 15) (x := x48) dX1_copyFrom_138 rfl lay_1 (by decide) fl1_27 ha rfl rfl (rc_F F101 (Or.inl (by decide)) (by decide) (rc_F F96 (Or.inl (by decide)) (by decide) (rc_F F91 (Or.inl (by decide)) (by decide) (rc_F F86 (Or.inl (by decide)) (by decide) (rc_F F81 (Or.inl (by decide)) (by decide) (rc_F F30 (Or.inl (by decide)) (by decide) (hx49))))))) ?_
    refine tn_iconst dX1_copyFrom_141 ?_
    refine tn_sipush dX1_copyFrom_142 (by decide) ?_
    refine tn_acopyI (a := x72) (b := x48) (sp := 0) (dp := 0) (n := 144) dX1_copyFrom_145 mla1_80 acNat acSt acIni hk74i hk50i ⟨by omega, by omega⟩ (by omega) (by omega) (by omega) (by omega) (by omega) (by omega) (Nat.le_of_ble_eq_true rfl) ?_
    obtain ⟨σ103, h104⟩ : ∃ s, s = (rowS (1000 + x48) (cpZ (σ98.2.1 (1000 + x72)) (σ98.2.1 (1000 + x48)) (0) (0) (144)) σ98) := ⟨_, rfl⟩
    rw [← h104]
    have w105 : WT T8 σ103 := by rw [h104]; exact (w100.row (Or.inl hk50i) (vok_cp1 w100 hk74i hk50i (by have q9 := hk50; omega)))
    have F106 : FrC T [] σ98 σ103 := by rw [h104]; exact (FrC.rfl.row (hk_no (GT.nh gt9 (nh_k hk50 (by unfold HT; omega)))))
    have c107 : CHX [] [x48] [] σ98 σ103 := by rw [h104]; exact (CHX.rfl.row (by simp))
    have c69 := cp6 (s := σ27) hd9 h79 h84 h89 h94 h99 h104
    exact tn_vret rfl dX1_copyFrom_148 ⟨rfl, w105, ((((((((FrC.rfl.trans (FrC.sub F16 (by decide))).trans (FrC.sub F30 (by decide))).trans (FrC.sub F81 (by decide))).trans (FrC.sub F86 (by decide))).trans (FrC.sub F91 (by decide))).trans (FrC.sub F96 (by decide))).trans (FrC.sub F101 (by decide))).trans (FrC.sub F106 (by decide))), ((((((((CHN.rfl.trans (CHN.sub f11 (by simp) (by simp) (by simp))).trans (CHN.of c31 (by simp) (fun z q => Or.inl (by revert q; simp; try omega)) (by simp))).trans (CHN.of c82 (by simp) (fun z q => by rw [List.mem_singleton.mp q]; exact (ex9.imp (fun e => by rw [e]; simp) id)) (by simp))).trans (CHN.of c87 (by simp) (fun z q => by rw [List.mem_singleton.mp q]; exact (Or.inl (by rw [exR9]; simp))) (by simp))).trans (CHN.of c92 (by simp) (fun z q => by rw [List.mem_singleton.mp q]; exact (Or.inl (by rw [exP9]; simp))) (by simp))).trans (CHN.of c97 (by simp) (fun z q => by rw [List.mem_singleton.mp q]; exact (Or.inl (by rw [exL9]; simp))) (by simp))).trans (CHN.of c102 (by simp) (fun z q => by rw [List.mem_singleton.mp q]; exact (Or.inl (by rw [exn9]; simp))) (by simp))).trans (CHN.of c107 (by simp) (fun z q => by rw [List.mem_singleton.mp q]; exact (Or.inl (by rw [exh9]; simp))) (by simp))), ⟨⟨((show σ103.2.1 6 a = σ27.2.1 6 a from rc_F F106 (Or.inl (by decide)) (by decide) (rc_F F101 (Or.inl (by decide)) (by decide) (rc_F F96 (Or.inl (by decide)) (by decide) (rc_F F91 (Or.inl (by decide)) (by decide) (rc_F F86 (Or.inl (by decide)) (by decide) (rc_F F81 (Or.inl (by decide)) (by decide) (rfl))))))).trans (by omega)), ((show σ103.2.1 7 a = σ27.2.1 7 a from rc_F F106 (Or.inl (by decide)) (by decide) (rc_F F101 (Or.inl (by decide)) (by decide) (rc_F F96 (Or.inl (by decide)) (by decide) (rc_F F91 (Or.inl (by decide)) (by decide) (rc_F F86 (Or.inl (by decide)) (by decide) (rc_F F81 (Or.inl (by decide)) (by decide) (rfl))))))).trans (by omega)), ((show σ103.2.1 8 a = σ27.2.1 8 a from rc_F F106 (Or.inl (by decide)) (by decide) (rc_F F101 (Or.inl (by decide)) (by decide) (rc_F F96 (Or.inl (by decide)) (by decide) (rc_F F91 (Or.inl (by decide)) (by decide) (rc_F F86 (Or.inl (by decide)) (by decide) (rc_F F81 (Or.inl (by decide)) (by decide) (rfl))))))).trans (by omega)), ((show σ103.2.1 9 a = σ27.2.1 9 a from rc_F F106 (Or.inl (by decide)) (by decide) (rc_F F101 (Or.inl (by decide)) (by decide) (rc_F F96 (Or.inl (by decide)) (by decide) (rc_F F91 (Or.inl (by decide)) (by decide) (rc_F F86 (Or.inl (by decide)) (by decide) (rc_F F81 (Or.inl (by decide)) (by decide) (rfl))))))).trans (by omega))⟩, ((show σ103.2.1 10 a = σ27.2.1 10 a from rc_F F106 (Or.inl (by decide)) (by decide) (rc_F F101 (Or.inl (by decide)) (by decide) (rc_F F96 (Or.inl (by decide)) (by decide) (rc_F F91 (Or.inl (by decide)) (by decide) (rc_F F86 (Or.inl (by decide)) (by decide) (rc_F F81 (Or.inl (by decide)) (by decide) (rfl))))))).trans (by omega))⟩, ⟨x18, rc_F F106 (Or.inl (by decide)) (by decide) (rc_F F101 (Or.inl (by decide)) (by decide) (rc_F F96 (Or.inl (by decide)) (by decide) (rc_F F91 (Or.inl (by decide)) (by decide) (rc_F F86 (Or.inl (by decide)) (by decide) (rc_F F81 (Or.inl (by decide)) (by decide) (rc_F F30 (Or.inl (by decide)) (by decide) (hx19))))))), ex9, (cw_same (fun z a b => by have w := c69.1 z a (by omega); rw [s69, ey9] at w; exact w.trans (congrFun (f11.2.1 y (by simp) ⟨by omega, by omega⟩) z))), (fun z a b => by rw [← exR9]; have w := c69.2.1 z a (by omega); rw [s69, eyR9] at w; exact w.trans (congrFun (f11.2.1 yR (by simp) ⟨by omega, by omega⟩) z)), (fun z a b => by rw [← exP9]; have w := c69.2.2.1 z a (by omega); rw [s69, eyP9] at w; exact w.trans (congrFun (f11.2.1 yP (by simp) ⟨by omega, by omega⟩) z)), (fun z a b => by rw [← exL9]; have w := c69.2.2.2.1 z a (by omega); rw [s69, eyL9] at w; exact w.trans (congrFun (f11.2.1 yL (by simp) ⟨by omega, by omega⟩) z)), (fun z a b => by rw [← exn9]; have w := c69.2.2.2.2.1 z a (by omega); rw [s69, eyn9] at w; exact w.trans (congrFun (f11.2.1 yn (by simp) ⟨by omega, by omega⟩) z)), (fun z a b => by rw [← exh9]; have w := c69.2.2.2.2.2 z a (by omega); rw [s69, eyh9] at w; exact w.trans (congrFun (f11.2.1 yh (by simp) ⟨by omega, by omega⟩) z))⟩⟩
  · exact tn_vret rfl dX1_copyFrom_11 ⟨rfl, w15, (FrC.rfl.trans (FrC.sub F16 (by decide))), (CHN.rfl.trans (CHN.sub f11 (by simp) (by simp) (by simp))), False.elim (by omega), False.elim (by omega)⟩
end
section
def nwN (N g : Int) : Int := if 1000 ≤ g then g - 1000 + N else g
theorem uZ_id {α : Type} {f : Int → α} {z : Int} : uZ f z (f z) = f := by
  funext q; unfold uZ; by_cases e : q = z
  · rw [if_pos e, e]
  · rw [if_neg e]
theorem rv_up {σ : MS} {y : Nat} {z v : Int} : (sA (1000 + y) z v σ).2.1 (1000 + y) = uZ (σ.2.1 (1000 + y)) z v := if_pos rfl
theorem nn_wA {nb : Int → Int} {V V1 : Int → It} {k y : Int} (e : V1 = uZ V k (uZ (V k) 1 y)) (h : V k 0 ≤ 5 ∨ V k 0 = 10) (hy : y = nb (V k 1)) : V1 = uZ V k (rn1 nb (V k)) := by
  unfold rn1
  rw [e, if_pos h, hy]
theorem nn_wC {nb : Int → Int} {V : Int → It} {k : Int} (h : (V k 0 ≤ 5 ∨ V k 0 = 10) → nb (V k 1) = V k 1) : V = uZ V k (rn1 nb (V k)) := by
  unfold rn1
  by_cases z : V k 0 ≤ 5 ∨ V k 0 = 10
  · rw [if_pos z, h z, uZ_id, uZ_id]
  · rw [if_neg z, uZ_id]
theorem RN3.nop {W1 V : Int → It} {nb : Int → Int} {k c : Int} (h : RN3 W1 V nb k c) (hc : c < 11) (q : V k c = 2) (hy : nb (V k (c + 1)) = V k (c + 1)) : RN3 W1 V nb k (c + 2) := h.yes hc q hy.symm (by rw [uZ_id, uZ_id])
def nnI (N : Int) (i : It) : It := rn3 (nwN N) (rn1 (nwN N) i) 4
theorem nn_fin {W W1 V : Int → It} {N k c : Int} (h1 : W1 = uZ W k (rn1 (nwN N) (W k))) (h : RN3 W1 V (nwN N) k c) (hc : 11 ≤ c) : V = uZ W k (nnI N (W k)) := by
  have e := h.fin hc
  rw [h1, uZ_eq, uZ_uZ] at e
  exact e
end
section
set_option maxHeartbeats 1000000 in
set_option maxRecDepth 20000 in
theorem k_X5_exchange_x (d : Nat) {T : CT} {σ : MS} {a : Nat} {r : Int} {p2 : Nat} {xs : Nat} (ha : OB T a 5) (h_r : -2147483648 ≤ r ∧ r ≤ 2147483647) (h_p2 : OB T p2 1) (t_p2 : (T p2).1 = 31) (hw : WT T σ) (hxs : σ.2.1 34 a = (xs : Int)) (hr : 0 ≤ r ∧ r < 7) : Tn (d + 1) m_X5_exchange 0 T σ [(0, .ref a), (1, .int (iI r)), (2, .ref p2)] [] (fun ro T2 σ2 => ∃ v : Int, ro = some (vl true v) ∧ T = T2 ∧ WT T2 σ2 ∧ FrC T [] σ σ2 ∧ (∃ x : Nat, v = (x : Int) ∧ (T2 x).1 = 31) ∧ (CHX [] [xs] [] σ σ2) ∧ (v = σ.2.1 (1000 + xs) r) ∧ (σ2.2.1 (1000 + xs) = uZ (σ.2.1 (1000 + xs)) r (p2 : Int))) := by
  refine tn_iload_n dX5_exchange_0 rfl 1 rfl ?_
  refine tn_if_lt (tgt := 22) dX5_exchange_1 (by decide) ⟨by omega, by omega⟩ (fun h1 => absurd h1 (by omega)) (fun h1 => ?_)
  refine tn_iload_n dX5_exchange_4 rfl 1 rfl ?_
  refine tn_aload_n dX5_exchange_5 rfl 0 rfl ?_
  obtain ⟨hk4, hl5⟩ : AR T xs 4 7 7 := ar_of (wf_34 hw ha) hxs
  have hk4i : (T xs).1 = 4 ∨ (T xs).1 = 5 := by omega
  refine tn_getR (ci := 5) (i := 1) (n := 34) (x := xs) dX5_exchange_6 rfl lay_5 (by decide) fl5_20 ha rfl rfl (hxs) ?_
  refine tn_alenX dX5_exchange_9 (by have q9 := hk4i; omega) ?_
  refine tn_icmp_ge (tgt := 22) dX5_exchange_10 (by decide) ⟨by omega, by omega⟩ ⟨by omega, by omega⟩ (fun h6 => absurd h6 (by omega)) (fun h6 => ?_)
  refine tn_aload_n dX5_exchange_13 rfl 0 rfl ?_
  refine tn_getR (ci := 5) (i := 1) (n := 34) (x := xs) dX5_exchange_14 rfl lay_5 (by decide) fl5_20 ha rfl rfl (hxs) ?_
  refine tn_iload_n dX5_exchange_17 rfl 1 rfl ?_
  obtain ⟨x7, hx8, hk9⟩ := (hw).2.2.2.1.1 xs hk4 (r) (by omega) (by omega)
  refine tn_aald (z := r) (x := x7) dX5_exchange_18 hk4i (by omega) (by omega) (by omega) hx8 ?_
  have hk9o : OB T x7 1 := ⟨by omega, by rw [hk9]; rfl, by omega⟩
  refine tn_ifnonnull (tgt := 24) dX5_exchange_19 (by decide) ?_
  refine tn_aload_n dX5_exchange_24 rfl 0 rfl ?_
  refine tn_getR (ci := 5) (i := 1) (n := 34) (x := xs) dX5_exchange_25 rfl lay_5 (by decide) fl5_20 ha rfl rfl (hxs) ?_
  refine tn_iload_n dX5_exchange_28 rfl 1 rfl ?_
  obtain ⟨x10, hx11, hk12⟩ := (hw).2.2.2.1.1 xs hk4 (r) (by omega) (by omega)
  refine tn_aald (z := r) (x := x10) dX5_exchange_29 hk4i (by omega) (by omega) (by omega) hx11 ?_
  have hk12o : OB T x10 1 := ⟨by omega, by rw [hk12]; rfl, by omega⟩
  refine tn_astore_n (L' := [(3, .ref x10), (0, .ref a), (1, .int (iI r)), (2, .ref p2)]) dX5_exchange_30 rfl (by decide) rfl ?_
  refine tn_aload_n dX5_exchange_31 rfl 1 rfl ?_
  refine tn_getR (ci := 5) (i := 1) (n := 34) (x := xs) dX5_exchange_32 rfl lay_5 (by decide) fl5_20 ha rfl rfl (hxs) ?_
  refine tn_iload_n dX5_exchange_35 rfl 2 rfl ?_
  refine tn_aload_n dX5_exchange_36 rfl 3 rfl ?_
  refine tn_aastQ (z := r) (v := p2) dX5_exchange_37 (by have q9 := hk4i; omega) h_p2.r (by omega) (by omega) (by omega) ?_
  refine tn_aload_n dX5_exchange_38 rfl 0 rfl ?_
  exact tn_aret rfl (Or.inl ⟨_, rfl⟩) (Or.inr ⟨_, rfl⟩) dX5_exchange_39 ⟨(x10 : Int), congrArg some (vl_ref rfl).symm, rfl, (hw.rq (by have h1 := hk4; have h2 := t_p2; omega)), (FrC.rfl.arr (hk_no (nh_k hk4 (by unfold HT; omega)))), ⟨_, rfl, hk12⟩, (CHX.rfl.arr (by simp)), hx11.symm, rv_up⟩
end
section
set_option maxHeartbeats 1000000 in
set_option maxRecDepth 20000 in
theorem l_X5_numberNew_x_46 (d : Nat) {T : CT} {σ0 : MS} {a : Nat} {c1 : Int} {W1 : Int → It} {cd : Nat} {x : Nat} {n : Int} {W : Int → It} {Nm : Int} {post : Option Value → CT → MS → Prop} (h_a : OB T a 5) (r_c1 : 0 ≤ c1 ∧ c1 ≤ 200) (hw0 : WT T σ0) (hk : 0 ≤ c1 ∧ c1 < n) (hcd : σ0.2.1 35 a = (cd : Int)) (hx : σ0.2.1 5 cd = (x : Int)) (hn : σ0.2.1 6 cd = n) (hNm : σ0.2.1 7 cd = Nm) (hN : n ≤ 200) (hx_122 : ∀ (i2 : Int) (σ : MS) , (WT T σ) → (FrC T [] σ0 σ) → (3 ≤ i2 ∧ i2 ≤ 11) → (CHX [] [x] [] σ0 σ) → (RN3 W1 (cW σ x n) (nwN Nm) c1 i2) → (3 ≤ i2 ∧ i2 ≤ 11) → (11 ≤ i2) → Tn (d + 3) m_X5_numberNew 122 T σ [(0, .ref a), (1, .int (iI c1)), (2, .int (iI i2))] [] post) : ∀ (nq9 : Nat) (i2 : Int) (σ : MS) , (WT T σ) → (FrC T [] σ0 σ) → (3 ≤ i2 ∧ i2 ≤ 11) → (CHX [] [x] [] σ0 σ) → (RN3 W1 (cW σ x n) (nwN Nm) c1 i2) → (3 ≤ i2 ∧ i2 ≤ 11) → (2147483700 - i2).toNat = nq9 → Tn (d + 3) m_X5_numberNew 46 T σ [(0, .ref a), (1, .int (iI c1)), (2, .int (iI i2))] [] post := by
  intro nq9
  induction nq9 using Nat.strongRecOn with
  | _ nq9 ih =>
    intro i2 σ hw hF r_i2 hC hI h2 hm
    have hIn := hI.num
    refine tn_iload_n dX5_numberNew_46 rfl 2 rfl ?_
    refine tn_bipush dX5_numberNew_47 (by decide) ?_
    refine tn_icmp_ge (tgt := 122) dX5_numberNew_49 (by decide) ⟨by omega, by omega⟩ ⟨by decide, by decide⟩ (fun h1 => ?_) (fun h1 => ?_)
    · exact tn_sub [0, 1, 2] rfl (hx_122 (i2) σ hw (FrC.rfl.trans (FrC.sub hF (by decide))) (by omega) hC hI (by omega) (by omega))
    · refine tn_aload_n dX5_numberNew_52 rfl 0 rfl ?_
      have hk4 : (T cd).1 = 31 := ob_of (wf_35 hw0 h_a) hcd
      have hk4o : OB T cd 1 := ⟨by omega, by rw [hk4]; rfl, by omega⟩
      refine tn_getR (ci := 5) (i := 2) (n := 35) (x := cd) dX5_numberNew_53 rfl lay_5 (by decide) fl5_47 h_a rfl rfl (rc_F hF (Or.inl (by decide)) (by decide) (hcd)) ?_
      refine tn_iload_n dX5_numberNew_56 rfl 1 rfl ?_
      refine tn_iload_n dX5_numberNew_57 rfl 2 rfl ?_
      obtain ⟨hl9, hk8a, hk8b⟩ := cel_of (wf_5 hw0 hk4o) hx
      have hk8 : (T x).1 = 13 := hk8b (by omega)
      clear hk8a hk8b
      have hk8i : IA T x := by unfold IA; omega
      refine tn_callV (M := m_X5_numberNew) (pc := 58) (ix := 164) (ci := 1) (M' := m_X1_get) (As := [.int (iI c1), .int (iI i2)]) (rest := []) dX5_numberNew_58 ok_X1_get im_X1_get se_X1_get ml5_164 np_X1_get rfl rfl hk4o rfl (Nat.le_of_ble_eq_true rfl) (Nat.le_of_ble_eq_true rfl) rfl (k_X1_get_x (d + 1) (T := T) (σ := σ) (a := cd) (k := c1) (c := i2) (x := x) (n := n) (W := cW σ x n) hk4o (by omega) (by omega) hw (rc_F hF (Or.inl (by decide)) (by decide) (hx)) (rc_F hF (Or.inl (by decide)) (by decide) (hn)) rfl (by omega) (by omega)) (fun r10 T12 σ11 gt13 hp => ?_)
      obtain ⟨v16, rfl, rfl, rfl, f14, f15⟩ := hp
      clear gt13
      show Tn _ _ 61 T σ [(0, .ref a), (1, .int (iI c1)), (2, .int (iI i2))] [.int (iI v16)] _
      refine tn_iconst dX5_numberNew_61 ?_
      refine tn_icmp_ne (tgt := 116) dX5_numberNew_62 (by decide) ⟨by omega, by omega⟩ ⟨by decide, by decide⟩ (fun h17 => ?_) (fun h17 => ?_)
      · refine tn_iinc (q0 := 2) (L' := [(2, .int (iI (i2 + 2))), (0, .ref a), (1, .int (iI c1))]) dX5_numberNew_116 rfl (by decide) rfl ?_
        refine tn_goto (tgt := 46) dX5_numberNew_119 (by decide) ?_
        exact tn_sub [1, 2, 0] rfl (ih _ (by omega) (i2 + 2) σ hw (FrC.rfl.trans (FrC.sub hF (by decide))) (by omega) hC (hI.no (by omega) (by omega)) (by omega) rfl)
      · refine tn_aload_n dX5_numberNew_65 rfl 0 rfl ?_
        refine tn_getR (ci := 5) (i := 2) (n := 35) (x := cd) dX5_numberNew_66 rfl lay_5 (by decide) fl5_47 h_a rfl rfl (rc_F hF (Or.inl (by decide)) (by decide) (hcd)) ?_
        refine tn_iload_n dX5_numberNew_69 rfl 1 rfl ?_
        refine tn_iload_n dX5_numberNew_70 rfl 2 rfl ?_
        refine tn_iconst dX5_numberNew_71 ?_
        refine tn_iadd dX5_numberNew_72 ?_
        refine tn_callV (M := m_X5_numberNew) (pc := 73) (ix := 164) (ci := 1) (M' := m_X1_get) (As := [.int (iI c1), .int (iI (i2 + 1))]) (rest := []) dX5_numberNew_73 ok_X1_get im_X1_get se_X1_get ml5_164 np_X1_get rfl rfl hk4o rfl (Nat.le_of_ble_eq_true rfl) (Nat.le_of_ble_eq_true rfl) rfl (k_X1_get_x (d + 1) (T := T) (σ := σ) (a := cd) (k := c1) (c := i2 + 1) (x := x) (n := n) (W := cW σ x n) hk4o (by omega) (by omega) hw (rc_F hF (Or.inl (by decide)) (by decide) (hx)) (rc_F hF (Or.inl (by decide)) (by decide) (hn)) rfl (by omega) (by omega)) (fun r18 T20 σ19 gt21 hp => ?_)
        obtain ⟨v24, rfl, rfl, rfl, f22, f23⟩ := hp
        clear gt21
        show Tn _ _ 76 T σ [(0, .ref a), (1, .int (iI c1)), (2, .int (iI i2))] [.int (iI v24)] _
        refine tn_sipush dX5_numberNew_76 (by decide) ?_
        refine tn_icmp_lt (tgt := 116) dX5_numberNew_79 (by decide) ⟨by omega, by omega⟩ ⟨by decide, by decide⟩ (fun h25 => ?_) (fun h25 => ?_)
        · refine tn_iinc (q0 := 2) (L' := [(2, .int (iI (i2 + 2))), (0, .ref a), (1, .int (iI c1))]) dX5_numberNew_116 rfl (by decide) rfl ?_
          refine tn_goto (tgt := 46) dX5_numberNew_119 (by decide) ?_
          exact tn_sub [1, 2, 0] rfl (ih _ (by omega) (i2 + 2) σ hw (FrC.rfl.trans (FrC.sub hF (by decide))) (by omega) hC (hI.nop (by omega) (by omega) (by unfold nwN; rw [if_neg (by omega)])) (by omega) rfl)
        · refine tn_aload_n dX5_numberNew_82 rfl 0 rfl ?_
          refine tn_getR (ci := 5) (i := 2) (n := 35) (x := cd) dX5_numberNew_83 rfl lay_5 (by decide) fl5_47 h_a rfl rfl (rc_F hF (Or.inl (by decide)) (by decide) (hcd)) ?_
          refine tn_iload_n dX5_numberNew_86 rfl 1 rfl ?_
          refine tn_iload_n dX5_numberNew_87 rfl 2 rfl ?_
          refine tn_iconst dX5_numberNew_88 ?_
          refine tn_iadd dX5_numberNew_89 ?_
          refine tn_aload_n dX5_numberNew_90 rfl 0 rfl ?_
          refine tn_getR (ci := 5) (i := 2) (n := 35) (x := cd) dX5_numberNew_91 rfl lay_5 (by decide) fl5_47 h_a rfl rfl (rc_F hF (Or.inl (by decide)) (by decide) (hcd)) ?_
          refine tn_iload_n dX5_numberNew_94 rfl 1 rfl ?_
          refine tn_iload_n dX5_numberNew_95 rfl 2 rfl ?_
          refine tn_iconst dX5_numberNew_96 ?_
          refine tn_iadd dX5_numberNew_97 ?_
          refine tn_callV (M := m_X5_numberNew) (pc := 98) (ix := 164) (ci := 1) (M' := m_X1_get) (As := [.int (iI c1), .int (iI (i2 + 1))]) (rest := [.int (iI (i2 + 1)), .int (iI c1), .ref cd]) dX5_numberNew_98 ok_X1_get im_X1_get se_X1_get ml5_164 np_X1_get rfl rfl hk4o rfl (Nat.le_of_ble_eq_true rfl) (Nat.le_of_ble_eq_true rfl) rfl (k_X1_get_x (d + 1) (T := T) (σ := σ) (a := cd) (k := c1) (c := i2 + 1) (x := x) (n := n) (W := cW σ x n) hk4o (by omega) (by omega) hw (rc_F hF (Or.inl (by decide)) (by decide) (hx)) (rc_F hF (Or.inl (by decide)) (by decide) (hn)) rfl (by omega) (by omega)) (fun r26 T28 σ27 gt29 hp => ?_)
          obtain ⟨v32, rfl, rfl, rfl, f30, f31⟩ := hp
          clear gt29
          show Tn _ _ 101 T σ [(0, .ref a), (1, .int (iI c1)), (2, .int (iI i2))] [.int (iI v32), .int (iI (i2 + 1)), .int (iI c1), .ref cd] _
          refine tn_sipush dX5_numberNew_101 (by decide) ?_
          refine tn_isub dX5_numberNew_104 ?_
          refine tn_aload_n dX5_numberNew_105 rfl 0 rfl ?_
          refine tn_getR (ci := 5) (i := 2) (n := 35) (x := cd) dX5_numberNew_106 rfl lay_5 (by decide) fl5_47 h_a rfl rfl (rc_F hF (Or.inl (by decide)) (by decide) (hcd)) ?_
          refine tn_getI (ci := 1) (i := 2) (n := 7) (t := σ0.2.1 7 cd) dX5_numberNew_109 rfl lay_1 (by decide) fl5_152 hk4o rfl rfl (rc_F hF (Or.inl (by decide)) (by decide) (rfl)) ?_
          have g33 : ((0 : Int) ≤ σ0.2.1 7 cd ∧ σ0.2.1 7 cd ≤ 12) := wf_7 hw0 hk4o
          refine tn_iadd dX5_numberNew_112 ?_
          refine tn_callV (M := m_X5_numberNew) (pc := 113) (ix := 167) (ci := 1) (M' := m_X1_set) (As := [.int (iI c1), .int (iI (i2 + 1)), .int (iI ((v32 - 1000) + (σ0.2.1 7 cd)))]) (rest := []) dX5_numberNew_113 ok_X1_set im_X1_set se_X1_set ml5_167 np_X1_set rfl rfl hk4o rfl (Nat.le_of_ble_eq_true rfl) (Nat.le_of_ble_eq_true rfl) rfl (k_X1_set_x (d + 1) (T := T) (σ := σ) (a := cd) (k := c1) (c := i2 + 1) (y := (v32 - 1000) + (σ0.2.1 7 cd)) (x := x) (n := n) (W := cW σ x n) hk4o (by omega) (by omega) (by omega) hw (rc_F hF (Or.inl (by decide)) (by decide) (hx)) (rc_F hF (Or.inl (by decide)) (by decide) (hn)) rfl (by omega) (by omega) (by omega) (by omega)) (fun r34 T36 σ35 gt37 hp => ?_)
          obtain ⟨rfl, rfl, w41, F42, f38, f39⟩ := hp
          clear gt37
          show Tn _ _ 116 T σ35 [(0, .ref a), (1, .int (iI c1)), (2, .int (iI i2))] [] _
          refine tn_iinc (q0 := 2) (L' := [(2, .int (iI (i2 + 2))), (0, .ref a), (1, .int (iI c1))]) dX5_numberNew_116 rfl (by decide) rfl ?_
          refine tn_goto (tgt := 46) dX5_numberNew_119 (by decide) ?_
          exact tn_sub [1, 2, 0] rfl (ih _ (by omega) (i2 + 2) σ35 w41 ((FrC.rfl.trans (FrC.sub hF (by decide))).trans (FrC.sub F42 (by decide))) (by omega) (hC.trans (CHX.sub f38 (by simp) (by simp) (by simp))) (hI.yes (by omega) (by omega) (by unfold nwN; rw [if_pos (by omega)]; omega) f39) (by omega) rfl)
set_option maxHeartbeats 1000000 in
set_option maxRecDepth 20000 in
theorem k_X5_numberNew_x (d : Nat) {T : CT} {σ : MS} {a : Nat} {k : Int} {cd : Nat} {x : Nat} {n : Int} {W : Int → It} {Nm : Int} (ha : OB T a 5) (h_k : -2147483648 ≤ k ∧ k ≤ 2147483647) (hw : WT T σ) (hcd : σ.2.1 35 a = (cd : Int)) (hx : σ.2.1 5 cd = (x : Int)) (hn : σ.2.1 6 cd = n) (hW : cW σ x n = W) (hNm : σ.2.1 7 cd = Nm) (hN : n ≤ 200) (hk : 0 ≤ k ∧ k < n) (hk0 : 0 ≤ W k 0) : Tn (d + 3) m_X5_numberNew 0 T σ [(0, .ref a), (1, .int (iI k))] [] (fun ro T2 σ2 => ro = none ∧ T = T2 ∧ WT T2 σ2 ∧ FrC T [] σ σ2 ∧ (CHX [] [x] [] σ σ2) ∧ (cW σ2 x n = uZ W k (nnI Nm (W k)))) := by
  refine tn_aload_n dX5_numberNew_0 rfl 0 rfl ?_
  have hk3 : (T cd).1 = 31 := ob_of (wf_35 hw ha) hcd
  have hk3o : OB T cd 1 := ⟨by omega, by rw [hk3]; rfl, by omega⟩
  refine tn_getR (ci := 5) (i := 2) (n := 35) (x := cd) dX5_numberNew_1 rfl lay_5 (by decide) fl5_47 ha rfl rfl (hcd) ?_
  refine tn_iload_n dX5_numberNew_4 rfl 1 rfl ?_
  obtain ⟨hl8, hk7a, hk7b⟩ := cel_of (wf_5 hw hk3o) hx
  have hk7 : (T x).1 = 13 := hk7b (by omega)
  clear hk7a hk7b
  have hk7i : IA T x := by unfold IA; omega
  refine tn_callV (M := m_X5_numberNew) (pc := 5) (ix := 161) (ci := 1) (M' := m_X1_writtenBy) (As := [.int (iI k)]) (rest := []) dX5_numberNew_5 ok_X1_writtenBy im_X1_writtenBy se_X1_writtenBy ml5_161 np_X1_writtenBy rfl rfl hk3o rfl (Nat.le_of_ble_eq_true rfl) (Nat.le_of_ble_eq_true rfl) rfl (k_X1_writtenBy_x (d) (T := T) (σ := σ) (a := cd) (k := k) (x := x) (n := n) (W := W) hk3o (by omega) hw (hx) (hn) hW (by omega)) (fun r9 T11 σ10 gt12 hp => ?_)
  obtain ⟨v15, rfl, rfl, rfl, f13, f14⟩ := hp
  clear gt12
  show Tn _ _ 8 T σ [(0, .ref a), (1, .int (iI k))] [.int (iI v15)] _
  have wb9 := f14
  unfold WBQ at wb9
  refine tn_sipush dX5_numberNew_8 (by decide) ?_
  refine tn_icmp_lt (tgt := 44) dX5_numberNew_11 (by decide) ⟨by omega, by omega⟩ ⟨by decide, by decide⟩ (fun h16 => ?_) (fun h16 => ?_)
  · have hv1 : cW σ x n = uZ W k (rn1 (nwN Nm) (W k)) := (by rw [hW]; exact nn_wC (fun z => by unfold nwN; rw [if_neg (by omega)]))
    refine tn_iconst dX5_numberNew_44 ?_
    refine tn_istore_n (L' := [(2, .int (iI 3)), (0, .ref a), (1, .int (iI k))]) dX5_numberNew_45 rfl (by decide) rfl ?_
    refine tn_sub [1, 2, 0] rfl (l_X5_numberNew_x_46 (d) (T := T) (σ0 := σ) (a := a) (c1 := k) (cd := cd) (x := x) (n := n) (W := W) (Nm := Nm) (W1 := (cW σ x n)) ha (by omega) hw (by omega) (hcd) (hx) (hn) (hNm) hN (fun i217 σ18 w21 F22 r23 f24 f25 f26 f27 => ?_) _ (3) σ hw FrC.rfl (by omega) CHX.rfl RN3.nil (by omega) rfl)
    show Tn _ _ 122 T σ18 [(0, .ref a), (1, .int (iI k)), (2, .int (iI i217))] [] _
    exact tn_vret rfl dX5_numberNew_122 ⟨rfl, rfl, w21, (FrC.rfl.trans (FrC.sub F22 (by decide))), (CHX.rfl.trans (CHX.sub f24 (by simp) (by simp) (by simp))), (nn_fin hv1 f25 (by omega))⟩
  · refine tn_aload_n dX5_numberNew_14 rfl 0 rfl ?_
    refine tn_getR (ci := 5) (i := 2) (n := 35) (x := cd) dX5_numberNew_15 rfl lay_5 (by decide) fl5_47 ha rfl rfl (hcd) ?_
    refine tn_iload_n dX5_numberNew_18 rfl 1 rfl ?_
    refine tn_iconst dX5_numberNew_19 ?_
    refine tn_aload_n dX5_numberNew_20 rfl 0 rfl ?_
    refine tn_getR (ci := 5) (i := 2) (n := 35) (x := cd) dX5_numberNew_21 rfl lay_5 (by decide) fl5_47 ha rfl rfl (hcd) ?_
    refine tn_iload_n dX5_numberNew_24 rfl 1 rfl ?_
    refine tn_iconst dX5_numberNew_25 ?_
    refine tn_callV (M := m_X5_numberNew) (pc := 26) (ix := 164) (ci := 1) (M' := m_X1_get) (As := [.int (iI k), .int (iI 1)]) (rest := [.int (iI 1), .int (iI k), .ref cd]) dX5_numberNew_26 ok_X1_get im_X1_get se_X1_get ml5_164 np_X1_get rfl rfl hk3o rfl (Nat.le_of_ble_eq_true rfl) (Nat.le_of_ble_eq_true rfl) rfl (k_X1_get_x (d + 1) (T := T) (σ := σ) (a := cd) (k := k) (c := 1) (x := x) (n := n) (W := W) hk3o (by omega) (by decide) hw (hx) (hn) hW (by omega) (by omega)) (fun r28 T30 σ29 gt31 hp => ?_)
    obtain ⟨v34, rfl, rfl, rfl, f32, f33⟩ := hp
    clear gt31
    show Tn _ _ 29 T σ [(0, .ref a), (1, .int (iI k))] [.int (iI v34), .int (iI 1), .int (iI k), .ref cd] _
    refine tn_sipush dX5_numberNew_29 (by decide) ?_
    refine tn_isub dX5_numberNew_32 ?_
    refine tn_aload_n dX5_numberNew_33 rfl 0 rfl ?_
    refine tn_getR (ci := 5) (i := 2) (n := 35) (x := cd) dX5_numberNew_34 rfl lay_5 (by decide) fl5_47 ha rfl rfl (hcd) ?_
    refine tn_getI (ci := 1) (i := 2) (n := 7) (t := σ.2.1 7 cd) dX5_numberNew_37 rfl lay_1 (by decide) fl5_152 hk3o rfl rfl (rfl) ?_
    have g35 : ((0 : Int) ≤ σ.2.1 7 cd ∧ σ.2.1 7 cd ≤ 12) := wf_7 hw hk3o
    refine tn_iadd dX5_numberNew_40 ?_
    refine tn_callV (M := m_X5_numberNew) (pc := 41) (ix := 167) (ci := 1) (M' := m_X1_set) (As := [.int (iI k), .int (iI 1), .int (iI ((v34 - 1000) + (σ.2.1 7 cd)))]) (rest := []) dX5_numberNew_41 ok_X1_set im_X1_set se_X1_set ml5_167 np_X1_set rfl rfl hk3o rfl (Nat.le_of_ble_eq_true rfl) (Nat.le_of_ble_eq_true rfl) rfl (k_X1_set_x (d + 1) (T := T) (σ := σ) (a := cd) (k := k) (c := 1) (y := (v34 - 1000) + (σ.2.1 7 cd)) (x := x) (n := n) (W := W) hk3o (by omega) (by decide) (by omega) hw (hx) (hn) hW (by omega) (by omega) (by omega) (by omega)) (fun r36 T38 σ37 gt39 hp => ?_)
    obtain ⟨rfl, rfl, w43, F44, f40, f41⟩ := hp
    clear gt39
    show Tn _ _ 44 T σ37 [(0, .ref a), (1, .int (iI k))] [] _
    have hv1 : cW σ37 x n = uZ W k (rn1 (nwN Nm) (W k)) := nn_wA f41 (by omega) (by unfold nwN; rw [if_pos (by omega)]; omega)
    refine tn_iconst dX5_numberNew_44 ?_
    refine tn_istore_n (L' := [(2, .int (iI 3)), (0, .ref a), (1, .int (iI k))]) dX5_numberNew_45 rfl (by decide) rfl ?_
    refine tn_sub [1, 2, 0] rfl (l_X5_numberNew_x_46 (d) (T := T) (σ0 := σ37) (a := a) (c1 := k) (cd := cd) (x := x) (n := n) (W := W) (Nm := Nm) (W1 := (cW σ37 x n)) ha (by omega) w43 (by omega) (rc_F F44 (Or.inl (by decide)) (by decide) (hcd)) (rc_F F44 (Or.inl (by decide)) (by decide) (hx)) (rc_F F44 (Or.inl (by decide)) (by decide) (hn)) (rc_F F44 (Or.inl (by decide)) (by decide) (hNm)) hN (fun i245 σ46 w49 F50 r51 f52 f53 f54 f55 => ?_) _ (3) σ37 w43 FrC.rfl (by omega) CHX.rfl RN3.nil (by omega) rfl)
    show Tn _ _ 122 T σ46 [(0, .ref a), (1, .int (iI k)), (2, .int (iI i245))] [] _
    exact tn_vret rfl dX5_numberNew_122 ⟨rfl, rfl, w49, ((FrC.rfl.trans (FrC.sub F44 (by decide))).trans (FrC.sub F50 (by decide))), ((CHX.rfl.trans (CHX.sub f40 (by simp) (by simp) (by simp))).trans (CHX.sub f52 (by simp) (by simp) (by simp))), (nn_fin hv1 f53 (by omega))⟩
end
section
theorem crs_ext {n F : Int} {W : Int → It} {Hr Hp Hl Hn Hh Gr Gp Gl Gn Gh : Int → Int} (h1 : ∀ f, 0 ≤ f → f < F → Hr f = Gr f) (h2 : ∀ f, 0 ≤ f → f < F → Hp f = Gp f) (h3 : ∀ f, 0 ≤ f → f < F → Hl f = Gl f) (h4 : ∀ f, 0 ≤ f → f < F → Hn f = Gn f) (h5 : ∀ f m, 0 ≤ f → f < F → 0 ≤ m → m < Gn f → Hh (12 * f + m) = Gh (12 * f + m)) : cRS n W F Hr Hp Hl Hn Hh = cRS n W F Gr Gp Gl Gn Gh := by
  have e : ∀ A B : Int → Int, (∀ f, 0 ≤ f → f < F → A f = B f) → (fun f => if 0 ≤ f ∧ f < F then A f else 0) = (fun f => if 0 ≤ f ∧ f < F then B f else 0) := fun A B h => by
    funext f
    by_cases z : 0 ≤ f ∧ f < F
    · rw [if_pos z, if_pos z, h f z.1 z.2]
    · rw [if_neg z, if_neg z]
  have e4 : (fun f m => if (0 ≤ f ∧ f < F) ∧ 0 ≤ m ∧ m < Hn f then Hh (12 * f + m) else 0) = (fun f m => if (0 ≤ f ∧ f < F) ∧ 0 ≤ m ∧ m < Gn f then Gh (12 * f + m) else 0) := by
    funext f m
    by_cases z : 0 ≤ f ∧ f < F
    · by_cases w : 0 ≤ m ∧ m < Gn f
      · rw [if_pos ⟨z, w.1, by rw [h4 f z.1 z.2]; exact w.2⟩, if_pos ⟨z, w⟩, h5 f m z.1 z.2 w.1 w.2]
      · rw [if_neg (fun q => w ⟨q.2.1, by rw [← h4 f z.1 z.2]; exact q.2.2⟩), if_neg (fun q => w q.2)]
    · rw [if_neg (fun q => z q.1), if_neg (fun q => z q.1)]
  unfold cRS
  rw [e Hr Gr h1, e Hp Gp h2, e Hl Gl h3, e4]
theorem INJ.ds {S : Nat → Prop} {T : CT} {σ : MS} (h : INJ S T σ) {L : List (Nat × Nat)} (hL : ∀ p, p ∈ L → p.1 ∈ AFL ∧ S p.2 ∧ OB T p.2 (cls p.1)) (hn : L.Nodup) : DS (L.map (fun p => adN σ p.1 p.2)) := fun i j a b hi hj hij e => by
  rw [List.getElem?_map] at hi hj
  cases qi : L[i]? with
  | none => rw [qi] at hi; exact absurd hi (by simp)
  | some p =>
    cases qj : L[j]? with
    | none => rw [qj] at hj; exact absurd hj (by simp)
    | some q =>
      rw [qi] at hi
      rw [qj] at hj
      have hi' : adN σ p.1 p.2 = a := by simpa using hi
      have hj' : adN σ q.1 q.2 = b := by simpa using hj
      obtain ⟨p1, p2, p3⟩ := hL p (List.mem_of_getElem? qi)
      obtain ⟨q1, q2, q3⟩ := hL q (List.mem_of_getElem? qj)
      have z := h.2 p.1 q.1 p.2 q.2 p1 q1 p2 q2 p3 q3 (by rw [hi', hj', e])
      have pq : p = q := Prod.ext z.1 z.2
      rw [← pq] at qj
      exact hij ((List.getElem?_inj (List.getElem?_eq_some_iff.mp qi).1 hn).mp (qi.trans qj.symm))
def CPC (T : CT) (σ σ2 : MS) (a e : Nat) : Prop := cdS σ2 a = cdS σ e ∧ cdW σ2 a = cdW σ e ∧ (σ2.2.1 6 a = σ.2.1 6 e ∧ σ2.2.1 7 a = σ.2.1 7 e ∧ σ2.2.1 8 a = σ.2.1 8 e ∧ σ2.2.1 9 a = σ.2.1 9 e ∧ σ2.2.1 10 a = σ.2.1 10 e) ∧ (σ2.2.1 5 a = σ.2.1 5 a ∨ (T (adN σ2 5 a)).1 = 0) ∧ rwF σ2 14 a 0 = rwF σ 14 e 0
section CPCS
variable {S : Nat → Prop} {T : CT} {σ : MS} {a e : Nat}
theorem cp_ds (hI : INJ S T σ) (sa : S a) (se : S e) (ha : OB T a 1) (he : OB T e 1) (hae : a ≠ e) : DS [adN σ 5 a, adN σ 11 a, adN σ 12 a, adN σ 13 a, adN σ 14 a, adN σ 15 a, adN σ 5 e, adN σ 11 e, adN σ 12 e, adN σ 13 e, adN σ 14 e, adN σ 15 e] := by
  refine hI.ds (L := [(5, a), (11, a), (12, a), (13, a), (14, a), (15, a), (5, e), (11, e), (12, e), (13, e), (14, e), (15, e)]) (fun p hp => ?_) (by simp [hae])
  simp only [List.mem_cons, List.not_mem_nil, or_false] at hp
  rcases hp with rfl | rfl | rfl | rfl | rfl | rfl | rfl | rfl | rfl | rfl | rfl | rfl
  · exact ⟨(show 5 ∈ AFL by decide), sa, ha⟩
  · exact ⟨(show 11 ∈ AFL by decide), sa, ha⟩
  · exact ⟨(show 12 ∈ AFL by decide), sa, ha⟩
  · exact ⟨(show 13 ∈ AFL by decide), sa, ha⟩
  · exact ⟨(show 14 ∈ AFL by decide), sa, ha⟩
  · exact ⟨(show 15 ∈ AFL by decide), sa, ha⟩
  · exact ⟨(show 5 ∈ AFL by decide), se, he⟩
  · exact ⟨(show 11 ∈ AFL by decide), se, he⟩
  · exact ⟨(show 12 ∈ AFL by decide), se, he⟩
  · exact ⟨(show 13 ∈ AFL by decide), se, he⟩
  · exact ⟨(show 14 ∈ AFL by decide), se, he⟩
  · exact ⟨(show 15 ∈ AFL by decide), se, he⟩
theorem ad_1 (hw : WT T σ) (ha : OB T a 1) : ∀ f, f ∈ AF6 → σ.2.1 f a = ((adN σ f a : Nat) : Int) := fun f hf => by
  have k : ∀ {Q : Nat → Prop} {f : Nat}, (∃ x : Nat, σ.2.1 f a = (x : Int) ∧ Q x) → σ.2.1 f a = ((adN σ f a : Nat) : Int) := fun h => (ad_ex h).1
  simp only [List.mem_cons, List.not_mem_nil, or_false] at hf
  rcases hf with rfl | rfl | rfl | rfl | rfl | rfl
  · exact k (wf_5 hw ha)
  · exact k (wf_11 hw ha)
  · exact k (wf_12 hw ha)
  · exact k (wf_13 hw ha)
  · exact k (wf_14 hw ha)
  · exact k (wf_15 hw ha)
theorem k_copyFrom_c (d : Nat) (ha : OB T a 1) (hta : (T a).1 = 50) (he : OB T e 1) (te : (T e).1 = 31) (hw : WT T σ) (sa : S a) (se : S e) (hI : INJ S T σ) (hN : σ.2.1 6 e ≤ 200) (hn12 : ∀ f, 0 ≤ f → f < σ.2.1 10 e → rwF σ 14 e f ≤ 12) : Tn (d + 3) m_X1_copyFrom 0 T σ [(0, .ref a), (1, .ref e)] [] (fun ro T2 σ2 => ro = none ∧ WT T2 σ2 ∧ FrC T [5, 6, 7, 8, 9, 10] σ σ2 ∧ CHN T [(5, a), (6, a), (7, a), (8, a), (9, a), (10, a)] [adN σ 5 a, adN σ 11 a, adN σ 12 a, adN σ 13 a, adN σ 14 a, adN σ 15 a] [] σ σ2 ∧ CPC T σ σ2 a e) := by
  have hae : a ≠ e := fun q => by rw [q] at hta; omega
  have ea := ad_1 hw ha
  have ee := ad_1 hw he
  have f10 := wf_10 hw he
  refine (k_X1_copyFrom_x d ha hta he te hw (ea 5 (by decide)) (ee 5 (by decide)) rfl (ea 11 (by decide)) (ea 12 (by decide)) (ea 13 (by decide)) (ea 14 (by decide)) (ea 15 (by decide)) (ee 11 (by decide)) (ee 12 (by decide)) (ee 13 (by decide)) (ee 14 (by decide)) (ee 15 (by decide)) hN hae (cp_ds hI sa se ha he hae)).mono (fun ro T2 σ2 hp => ?_)
  obtain ⟨p1, p2, p3, ch, ⟨⟨q6, q7, q8, q9⟩, q10⟩, x2, x5, xe, cw, r1, r2, r3, r4, r5⟩ := hp
  have ax : adN σ2 5 a = x2 := adN_of x5
  have hW : cdW σ2 a = cdW σ e := by unfold cdW; rw [ax, q6]; exact cw
  have ad : ∀ f, f ∈ [11, 12, 13, 14, 15] → adN σ2 f a = adN σ f a := fun f hf => by
    simp only [List.mem_cons, List.not_mem_nil, or_false] at hf
    unfold adN
    rw [ch.f (by omega) (by simp; omega)]
  refine ⟨p1, p2, p3, ch, ?_, hW, ⟨q6, q7, q8, q9, q10⟩, ?_, ?_⟩
  · unfold cdS
    rw [hW, q6, q10]
    have rr : ∀ g, g ∈ [11, 12, 13, 14, 15] → rwF σ2 g a = σ2.2.1 (1000 + adN σ g a) := fun g hg => by unfold rwF; rw [ad g hg]
    rw [rr 11 (by decide), rr 12 (by decide), rr 13 (by decide), rr 14 (by decide), rr 15 (by decide)]
    exact crs_ext (fun f f0 f1 => r1 f f0 (by omega)) (fun f f0 f1 => r2 f f0 (by omega)) (fun f f0 f1 => r3 f f0 (by omega)) (fun f f0 f1 => r4 f f0 (by omega)) (fun f m f0 f1 m0 m1 => r5 _ (by omega) (by have z := hn12 f f0 f1; omega))
  · rcases xe with z | z
    · exact Or.inl (by rw [x5, z]; exact (ea 5 (by decide)).symm)
    · exact Or.inr (by rw [ax]; exact z)
  · unfold rwF
    rw [ad 14 (by decide)]
    exact r4 0 (by decide) (by decide)
end CPCS
end
