/-! how deep a run stands -/
def ch (p : Int → Int) : Nat → Int → Int
  | 0, _ => 0
  | n + 1, f => if f = -1 then 0 else 1 + ch p n (p f)
theorem ch_fuel {p : Int → Int} {F : Int} (hp : ∀ f, 0 ≤ f → f < F → -1 ≤ p f ∧ p f < f) : ∀ (n m : Nat) (f : Int), -1 ≤ f → f < F → f + 1 ≤ n → f + 1 ≤ m → ch p n f = ch p m f := by
  intro n
  induction n with
  | zero =>
    intro m f h0 h1 h2 h3
    have e : f = -1 := by omega
    subst e
    cases m with
    | zero => rfl
    | succ m => simp [ch]
  | succ n ih =>
    intro m f h0 h1 h2 h3
    cases m with
    | zero =>
      have e : f = -1 := by omega
      subst e
      simp [ch]
    | succ m =>
      by_cases e : f = -1
      · subst e; simp [ch]
      · simp only [ch, if_neg e]
        have := hp f (by omega) h1
        rw [ih m (p f) this.1 (by omega) (by omega) (by omega)]
def pr (σ : MS) (m c f : Int) : Int := if m = 2 then -1 else σ.2.1 16 (12 * σ.2.1 78 c + f)
def DEC (σ : MS) (m c F : Int) : Prop := (0 ≤ σ.2.1 78 c ∧ σ.2.1 78 c < 6) ∧ (-1 ≤ σ.2.1 80 c ∧ σ.2.1 80 c < F ∧ F ≤ 12) ∧ ∀ f, 0 ≤ f → f < F → -1 ≤ pr σ m c f ∧ pr σ m c f < f
def dch (σ : MS) (m c : Int) : Int := ch (pr σ m c) 13 (σ.2.1 80 c)
theorem dch_step {σ : MS} {m c F f : Int} (h : DEC σ m c F) (h0 : 0 ≤ f) (h1 : f < F) : ch (pr σ m c) 13 f = 1 + ch (pr σ m c) 13 (pr σ m c f) := by
  have e : ch (pr σ m c) 13 f = 1 + ch (pr σ m c) 12 (pr σ m c f) := by
    show (if f = -1 then 0 else 1 + ch (pr σ m c) 12 (pr σ m c f)) = _
    rw [if_neg (by omega)]
  have := h.2.2 f h0 h1
  have h12 := h.2.1.2.2
  rw [e, ch_fuel h.2.2 12 13 (pr σ m c f) this.1 (by omega) (by omega) (by omega)]
theorem ch_m1 (p : Int → Int) : ch p 13 (-1) = 0 := by simp [ch]
def sm (g : Int → Int) : Nat → Int
  | 0 => 0
  | n + 1 => sm g n + g n
def dpt (σ : MS) (m : Int) : Int := sm (fun j => dch σ m (9 * m + j)) (σ.2.1 73 m).toNat
theorem ch_rng {p : Int → Int} : ∀ (n : Nat) (f : Int), 0 ≤ ch p n f ∧ ch p n f ≤ n := by
  intro n
  induction n with
  | zero => intro f; simp [ch]
  | succ n ih =>
    intro f
    simp only [ch]
    have := ih (p f)
    split <;> omega

theorem dX12_arePrintsAlike_23 : decode cX12_arePrintsAlike 23 = .ok (.iload_n 2, 1) := by decide +kernel
theorem dX12_arePrintsAlike_24 : decode cX12_arePrintsAlike 24 = .ok (.sipush 200, 3) := by decide +kernel
theorem dX12_arePrintsAlike_27 : decode cX12_arePrintsAlike 27 = .ok (.if_icmp .ge 52, 3) := by decide +kernel
theorem dX12_arePrintsAlike_30 : decode cX12_arePrintsAlike 30 = .ok (.iload_n 2, 1) := by decide +kernel
theorem dX12_arePrintsAlike_31 : decode cX12_arePrintsAlike 31 = .ok (.aload_n 0, 1) := by decide +kernel
theorem dX12_arePrintsAlike_32 : decode cX12_arePrintsAlike 32 = .ok (.getfield 161, 3) := by decide +kernel
theorem dX12_arePrintsAlike_35 : decode cX12_arePrintsAlike 35 = .ok (.iconst 1, 1) := by decide +kernel
theorem dX12_arePrintsAlike_36 : decode cX12_arePrintsAlike 36 = .ok (.iaload, 1) := by decide +kernel
theorem dX12_arePrintsAlike_37 : decode cX12_arePrintsAlike 37 = .ok (.if_icmp .ge 42, 3) := by decide +kernel
theorem dX12_arePrintsAlike_40 : decode cX12_arePrintsAlike 40 = .ok (.iload_n 1, 1) := by decide +kernel
theorem dX12_arePrintsAlike_41 : decode cX12_arePrintsAlike 41 = .ok (.ifCond .eq 38, 3) := by decide +kernel
theorem dX12_arePrintsAlike_44 : decode cX12_arePrintsAlike 44 = .ok (.aload_n 0, 1) := by decide +kernel
theorem dX12_arePrintsAlike_45 : decode cX12_arePrintsAlike 45 = .ok (.getfield 164, 3) := by decide +kernel
theorem dX12_arePrintsAlike_48 : decode cX12_arePrintsAlike 48 = .ok (.sipush 200, 3) := by decide +kernel
theorem dX12_arePrintsAlike_51 : decode cX12_arePrintsAlike 51 = .ok (.iload_n 2, 1) := by decide +kernel
theorem dX12_arePrintsAlike_52 : decode cX12_arePrintsAlike 52 = .ok (.iadd, 1) := by decide +kernel
theorem dX12_arePrintsAlike_53 : decode cX12_arePrintsAlike 53 = .ok (.iaload, 1) := by decide +kernel
theorem dX12_arePrintsAlike_54 : decode cX12_arePrintsAlike 54 = .ok (.aload_n 0, 1) := by decide +kernel
theorem dX12_arePrintsAlike_55 : decode cX12_arePrintsAlike 55 = .ok (.getfield 164, 3) := by decide +kernel
theorem dX12_arePrintsAlike_58 : decode cX12_arePrintsAlike 58 = .ok (.sipush 400, 3) := by decide +kernel
theorem dX12_arePrintsAlike_61 : decode cX12_arePrintsAlike 61 = .ok (.iload_n 2, 1) := by decide +kernel
theorem dX12_arePrintsAlike_62 : decode cX12_arePrintsAlike 62 = .ok (.iadd, 1) := by decide +kernel
theorem dX12_arePrintsAlike_63 : decode cX12_arePrintsAlike 63 = .ok (.iaload, 1) := by decide +kernel
theorem dX12_arePrintsAlike_64 : decode cX12_arePrintsAlike 64 = .ok (.if_icmp .ne 7, 3) := by decide +kernel
theorem dX12_arePrintsAlike_71 : decode cX12_arePrintsAlike 71 = .ok (.iconst 0, 1) := by decide +kernel
theorem dX12_arePrintsAlike_72 : decode cX12_arePrintsAlike 72 = .ok (.istore_n 1, 1) := by decide +kernel
theorem dX12_arePrintsAlike_73 : decode cX12_arePrintsAlike 73 = .ok (.iinc 2 1, 3) := by decide +kernel
theorem dX12_arePrintsAlike_76 : decode cX12_arePrintsAlike 76 = .ok (.goto (-53), 3) := by decide +kernel
theorem dX12_arePrintsAlike_67 : decode cX12_arePrintsAlike 67 = .ok (.iconst 1, 1) := by decide +kernel
theorem dX12_arePrintsAlike_68 : decode cX12_arePrintsAlike 68 = .ok (.goto 4, 3) := by decide +kernel
set_option maxHeartbeats 4000000 in
set_option maxRecDepth 20000 in
theorem l_prints (d : Nat) {b : Nat} {σ : MS} {post : Option Value → MS → Prop} (hR : RG σ) (hx_79 : ∀ (w : Int) (i : Int) , (w = 0 ∨ w = 1) → Tm (d + 1) m_X12_arePrintsAlike 79 b σ [(2, .int (iI i)), (1, .int (iI w)), (0, .ref b)] [] post) : ∀ (n : Nat) (w : Int) (i : Int) , ((w = 0 ∨ w = 1) ∧ 0 ≤ i ∧ i ≤ 200) → (200 - i).toNat = n → Tm (d + 1) m_X12_arePrintsAlike 23 b σ [(2, .int (iI i)), (1, .int (iI w)), (0, .ref b)] [] post := by
  intro n
  induction n using Nat.strongRecOn with
  | _ n ih =>
    intro w i h0 hm
    refine tm_iload_n dX12_arePrintsAlike_23 rfl 0 rfl ?_
    refine tm_sipush dX12_arePrintsAlike_24 (by decide) ?_
    refine tm_icmp_ge (tgt := 79) dX12_arePrintsAlike_27 (by decide) ⟨by omega, by omega⟩ ⟨by decide, by decide⟩ (fun h1 => ?_) (fun h1 => ?_)
    · exact tm_sub [0, 1, 2] rfl (hx_79 (w) (i) (by omega))
    · refine tm_iload_n dX12_arePrintsAlike_30 rfl 0 rfl ?_
      refine tm_aload_n dX12_arePrintsAlike_31 rfl 2 rfl ?_
      refine tm_get (k := 76) (v := .ref (b + 1 + 47)) lay_12 dX12_arePrintsAlike_32 (by decide) fl12_161 rfl ?_
      refine tm_iconst dX12_arePrintsAlike_35 ?_
      refine tm_iald (z := 1) (v := σ.2.1 76 1) dX12_arePrintsAlike_36 (show mT[47]? = some (76, 0, 3) from rfl) (by omega) (by omega) (by decide) (rfl) ?_
      have g2 := RG.a hR 76 (1)
      refine tm_icmp_ge (tgt := 79) dX12_arePrintsAlike_37 (by decide) ⟨by omega, by omega⟩ ⟨by omega, by omega⟩ (fun h3 => ?_) (fun h3 => ?_)
      · exact tm_sub [0, 1, 2] rfl (hx_79 (w) (i) (by omega))
      · refine tm_iload_n dX12_arePrintsAlike_40 rfl 1 rfl ?_
        refine tm_if_eq (tgt := 79) dX12_arePrintsAlike_41 (by decide) ⟨by omega, by omega⟩ (fun h4 => ?_) (fun h4 => ?_)
        · exact tm_sub [0, 1, 2] rfl (hx_79 (w) (i) (by omega))
        · refine tm_aload_n dX12_arePrintsAlike_44 rfl 2 rfl ?_
          refine tm_get (k := 77) (v := .ref (b + 1 + 48)) lay_12 dX12_arePrintsAlike_45 (by decide) fl12_164 rfl ?_
          refine tm_sipush dX12_arePrintsAlike_48 (by decide) ?_
          refine tm_iload_n dX12_arePrintsAlike_51 rfl 0 rfl ?_
          refine tm_iadd dX12_arePrintsAlike_52 ?_
          refine tm_iald (z := 200 + i) (v := σ.2.1 77 (200 + i)) dX12_arePrintsAlike_53 (show mT[48]? = some (77, 0, 600) from rfl) (by omega) (by omega) (by decide) (rfl) ?_
          have g5 := RG.a hR 77 (200 + i)
          refine tm_aload_n dX12_arePrintsAlike_54 rfl 2 rfl ?_
          refine tm_get (k := 77) (v := .ref (b + 1 + 48)) lay_12 dX12_arePrintsAlike_55 (by decide) fl12_164 rfl ?_
          refine tm_sipush dX12_arePrintsAlike_58 (by decide) ?_
          refine tm_iload_n dX12_arePrintsAlike_61 rfl 0 rfl ?_
          refine tm_iadd dX12_arePrintsAlike_62 ?_
          refine tm_iald (z := 400 + i) (v := σ.2.1 77 (400 + i)) dX12_arePrintsAlike_63 (show mT[48]? = some (77, 0, 600) from rfl) (by omega) (by omega) (by decide) (rfl) ?_
          have g6 := RG.a hR 77 (400 + i)
          refine tm_icmp_ne (tgt := 71) dX12_arePrintsAlike_64 (by decide) ⟨by omega, by omega⟩ ⟨by omega, by omega⟩ (fun h7 => ?_) (fun h7 => ?_)
          · refine tm_iconst dX12_arePrintsAlike_71 ?_
            refine tm_istore_n (L' := [(1, .int (iI 0)), (2, .int (iI i)), (0, .ref b)]) dX12_arePrintsAlike_72 rfl (by decide) rfl ?_
            refine tm_iinc (q0 := 1) (L' := [(2, .int (iI (i + 1))), (1, .int (iI 0)), (0, .ref b)]) dX12_arePrintsAlike_73 rfl (by decide) rfl ?_
            refine tm_goto (tgt := 23) dX12_arePrintsAlike_76 (by decide) ?_
            exact tm_sub [0, 1, 2] rfl (ih _ (by omega) (0) (i + 1) (by omega) rfl)
          · refine tm_iconst dX12_arePrintsAlike_67 ?_
            refine tm_goto (tgt := 72) dX12_arePrintsAlike_68 (by decide) ?_
            refine tm_istore_n (L' := [(1, .int (iI 1)), (2, .int (iI i)), (0, .ref b)]) dX12_arePrintsAlike_72 rfl (by decide) rfl ?_
            refine tm_iinc (q0 := 1) (L' := [(2, .int (iI (i + 1))), (1, .int (iI 1)), (0, .ref b)]) dX12_arePrintsAlike_73 rfl (by decide) rfl ?_
            refine tm_goto (tgt := 23) dX12_arePrintsAlike_76 (by decide) ?_
            exact tm_sub [0, 1, 2] rfl (ih _ (by omega) (1) (i + 1) (by omega) rfl)
theorem dX12_arePrintsAlike_0 : decode cX12_arePrintsAlike 0 = .ok (.aload_n 0, 1) := by decide +kernel
theorem dX12_arePrintsAlike_1 : decode cX12_arePrintsAlike 1 = .ok (.getfield 161, 3) := by decide +kernel
theorem dX12_arePrintsAlike_4 : decode cX12_arePrintsAlike 4 = .ok (.iconst 1, 1) := by decide +kernel
theorem dX12_arePrintsAlike_5 : decode cX12_arePrintsAlike 5 = .ok (.iaload, 1) := by decide +kernel
theorem dX12_arePrintsAlike_6 : decode cX12_arePrintsAlike 6 = .ok (.aload_n 0, 1) := by decide +kernel
theorem dX12_arePrintsAlike_7 : decode cX12_arePrintsAlike 7 = .ok (.getfield 161, 3) := by decide +kernel
theorem dX12_arePrintsAlike_10 : decode cX12_arePrintsAlike 10 = .ok (.iconst 2, 1) := by decide +kernel
theorem dX12_arePrintsAlike_11 : decode cX12_arePrintsAlike 11 = .ok (.iaload, 1) := by decide +kernel
theorem dX12_arePrintsAlike_12 : decode cX12_arePrintsAlike 12 = .ok (.if_icmp .ne 7, 3) := by decide +kernel
theorem dX12_arePrintsAlike_19 : decode cX12_arePrintsAlike 19 = .ok (.iconst 0, 1) := by decide +kernel
theorem dX12_arePrintsAlike_20 : decode cX12_arePrintsAlike 20 = .ok (.istore_n 1, 1) := by decide +kernel
theorem dX12_arePrintsAlike_21 : decode cX12_arePrintsAlike 21 = .ok (.iconst 0, 1) := by decide +kernel
theorem dX12_arePrintsAlike_22 : decode cX12_arePrintsAlike 22 = .ok (.istore_n 2, 1) := by decide +kernel
theorem dX12_arePrintsAlike_79 : decode cX12_arePrintsAlike 79 = .ok (.iload_n 1, 1) := by decide +kernel
theorem dX12_arePrintsAlike_80 : decode cX12_arePrintsAlike 80 = .ok (.ireturn, 1) := by decide +kernel
theorem dX12_arePrintsAlike_15 : decode cX12_arePrintsAlike 15 = .ok (.iconst 1, 1) := by decide +kernel
theorem dX12_arePrintsAlike_16 : decode cX12_arePrintsAlike 16 = .ok (.goto 4, 3) := by decide +kernel
set_option maxHeartbeats 4000000 in
set_option maxRecDepth 20000 in
theorem c_X12_arePrintsAlike (d : Nat) {b : Nat} {σ : MS} (hR : RG σ) : Tm (d + 1) m_X12_arePrintsAlike 0 b σ [(0, .ref b)] [] (fun ro σ2 => ∃ v : Int, ro = some (.int (iI v)) ∧ σ = σ2 ∧ ((v = 0 ∨ v = 1))) := by
  refine tm_aload_n dX12_arePrintsAlike_0 rfl 0 rfl ?_
  refine tm_get (k := 76) (v := .ref (b + 1 + 47)) lay_12 dX12_arePrintsAlike_1 (by decide) fl12_161 rfl ?_
  refine tm_iconst dX12_arePrintsAlike_4 ?_
  refine tm_iald (z := 1) (v := σ.2.1 76 1) dX12_arePrintsAlike_5 (show mT[47]? = some (76, 0, 3) from rfl) (by omega) (by omega) (by decide) (rfl) ?_
  have g1 := RG.a hR 76 (1)
  refine tm_aload_n dX12_arePrintsAlike_6 rfl 0 rfl ?_
  refine tm_get (k := 76) (v := .ref (b + 1 + 47)) lay_12 dX12_arePrintsAlike_7 (by decide) fl12_161 rfl ?_
  refine tm_iconst dX12_arePrintsAlike_10 ?_
  refine tm_iald (z := 2) (v := σ.2.1 76 2) dX12_arePrintsAlike_11 (show mT[47]? = some (76, 0, 3) from rfl) (by omega) (by omega) (by decide) (rfl) ?_
  have g2 := RG.a hR 76 (2)
  refine tm_icmp_ne (tgt := 19) dX12_arePrintsAlike_12 (by decide) ⟨by omega, by omega⟩ ⟨by omega, by omega⟩ (fun h3 => ?_) (fun h3 => ?_)
  · refine tm_iconst dX12_arePrintsAlike_19 ?_
    refine tm_istore_n (L' := [(1, .int (iI 0)), (0, .ref b)]) dX12_arePrintsAlike_20 rfl (by decide) rfl ?_
    refine tm_iconst dX12_arePrintsAlike_21 ?_
    refine tm_istore_n (L' := [(2, .int (iI 0)), (1, .int (iI 0)), (0, .ref b)]) dX12_arePrintsAlike_22 rfl (by decide) rfl ?_
    refine tm_sub [0, 1, 2] rfl (l_prints (d) (σ := σ) hR (fun w9 i10 f8 => ?_) _ (0) (0) (by omega) rfl)
    show Tm _ _ 79 b σ [(2, .int (iI i10)), (1, .int (iI w9)), (0, .ref b)] [] _
    refine tm_iload_n dX12_arePrintsAlike_79 rfl 1 rfl ?_
    exact tm_zret (v := w9) rfl (by omega) dX12_arePrintsAlike_80 (⟨_, rfl, rfl, by omega⟩)
  · refine tm_iconst dX12_arePrintsAlike_15 ?_
    refine tm_goto (tgt := 20) dX12_arePrintsAlike_16 (by decide) ?_
    refine tm_istore_n (L' := [(1, .int (iI 1)), (0, .ref b)]) dX12_arePrintsAlike_20 rfl (by decide) rfl ?_
    refine tm_iconst dX12_arePrintsAlike_21 ?_
    refine tm_istore_n (L' := [(2, .int (iI 0)), (1, .int (iI 1)), (0, .ref b)]) dX12_arePrintsAlike_22 rfl (by decide) rfl ?_
    refine tm_sub [0, 1, 2] rfl (l_prints (d) (σ := σ) hR (fun w16 i17 f15 => ?_) _ (1) (0) (by omega) rfl)
    show Tm _ _ 79 b σ [(2, .int (iI i17)), (1, .int (iI w16)), (0, .ref b)] [] _
    refine tm_iload_n dX12_arePrintsAlike_79 rfl 1 rfl ?_
    exact tm_zret (v := w16) rfl (by omega) dX12_arePrintsAlike_80 (⟨_, rfl, rfl, by omega⟩)
theorem dX12_depth_30 : decode cX12_depth 30 = .ok (.iload 4, 2) := by decide +kernel
theorem dX12_depth_32 : decode cX12_depth 32 = .ok (.iconst (-1), 1) := by decide +kernel
theorem dX12_depth_33 : decode cX12_depth 33 = .ok (.if_icmp .eq 37, 3) := by decide +kernel
theorem dX12_depth_36 : decode cX12_depth 36 = .ok (.iinc 2 1, 3) := by decide +kernel
theorem dX12_depth_39 : decode cX12_depth 39 = .ok (.iload_n 1, 1) := by decide +kernel
theorem dX12_depth_40 : decode cX12_depth 40 = .ok (.iconst 2, 1) := by decide +kernel
theorem dX12_depth_41 : decode cX12_depth 41 = .ok (.if_icmp .ne 7, 3) := by decide +kernel
theorem dX12_depth_48 : decode cX12_depth 48 = .ok (.aload_n 0, 1) := by decide +kernel
theorem dX12_depth_49 : decode cX12_depth 49 = .ok (.getfield 50, 3) := by decide +kernel
theorem dX12_depth_52 : decode cX12_depth 52 = .ok (.bipush 12, 2) := by decide +kernel
theorem dX12_depth_54 : decode cX12_depth 54 = .ok (.aload_n 0, 1) := by decide +kernel
theorem dX12_depth_55 : decode cX12_depth 55 = .ok (.getfield 167, 3) := by decide +kernel
theorem dX12_depth_58 : decode cX12_depth 58 = .ok (.iload_n 3, 1) := by decide +kernel
theorem dX12_depth_59 : decode cX12_depth 59 = .ok (.iaload, 1) := by decide +kernel
theorem dX12_depth_60 : decode cX12_depth 60 = .ok (.imul, 1) := by decide +kernel
theorem dX12_depth_61 : decode cX12_depth 61 = .ok (.iload 4, 2) := by decide +kernel
theorem dX12_depth_63 : decode cX12_depth 63 = .ok (.iadd, 1) := by decide +kernel
theorem dX12_depth_64 : decode cX12_depth 64 = .ok (.iaload, 1) := by decide +kernel
theorem dX12_depth_65 : decode cX12_depth 65 = .ok (.istore 4, 2) := by decide +kernel
theorem dX12_depth_67 : decode cX12_depth 67 = .ok (.goto (-37), 3) := by decide +kernel
theorem dX12_depth_44 : decode cX12_depth 44 = .ok (.iconst (-1), 1) := by decide +kernel
theorem dX12_depth_45 : decode cX12_depth 45 = .ok (.goto 20, 3) := by decide +kernel
set_option maxHeartbeats 4000000 in
set_option maxRecDepth 20000 in
theorem l_depth2 (d : Nat) {b : Nat} {σ : MS} {m : Int} {c : Int} {F : Int} {N0 : Int} {post : Option Value → MS → Prop} (hR : RG σ) (hm2 : 0 ≤ m ∧ m ≤ 2) (hc : 0 ≤ c ∧ c < 27) (hd : DEC σ m c F) (hN : N0 ≤ 190) (hx_70 : ∀ (n1 : Int) (f : Int) , (n1 = N0) → Tm (d + 1) m_X12_depth 70 b σ [(4, .int (iI f)), (3, .int (iI c)), (2, .int (iI n1)), (0, .ref b), (1, .int (iI m))] [] post) : ∀ (n : Nat) (n1 : Int) (f : Int) , (-1 ≤ f ∧ f < F ∧ 0 ≤ n1 ∧ n1 ≤ 200) → (n1 + ch (pr σ m c) 13 f = N0) → (f + 1).toNat = n → Tm (d + 1) m_X12_depth 30 b σ [(4, .int (iI f)), (3, .int (iI c)), (2, .int (iI n1)), (0, .ref b), (1, .int (iI m))] [] post := by
  intro n
  induction n using Nat.strongRecOn with
  | _ n ih =>
    intro n1 f h0 hn hm
    have hd1 := hd.1
    have hd2 := hd.2.1
    refine tm_iload dX12_depth_30 0 rfl ?_
    refine tm_iconst dX12_depth_32 ?_
    refine tm_icmp_eq (tgt := 70) dX12_depth_33 (by decide) ⟨by omega, by omega⟩ ⟨by decide, by decide⟩ (fun h1 => ?_) (fun h1 => ?_)
    · exact tm_sub [0, 1, 2, 3, 4] rfl (hx_70 (n1) (f) (by rw [show f = -1 by omega, ch_m1] at hn; omega))
    · have hst := dch_step hd (f := f) (by omega) (by omega)
      have hdd := hd.2.2 f (by omega) (by omega)
      have hrg := ch_rng (p := pr σ m c) 13 (pr σ m c f)
      refine tm_iinc (q0 := 2) (L' := [(2, .int (iI (n1 + 1))), (4, .int (iI f)), (3, .int (iI c)), (0, .ref b), (1, .int (iI m))]) dX12_depth_36 rfl (by decide) rfl ?_
      refine tm_iload_n dX12_depth_39 rfl 4 rfl ?_
      refine tm_iconst dX12_depth_40 ?_
      refine tm_icmp_ne (tgt := 48) dX12_depth_41 (by decide) ⟨by omega, by omega⟩ ⟨by decide, by decide⟩ (fun h2 => ?_) (fun h2 => ?_)
      · have hpr : pr σ m c f = σ.2.1 16 (12 * σ.2.1 78 c + f) := if_neg (by omega)
        refine tm_aload_n dX12_depth_48 rfl 3 rfl ?_
        refine tm_get (k := 16) (v := .ref (b + 1 + 13)) lay_12 dX12_depth_49 (by decide) fl12_50 rfl ?_
        refine tm_bipush dX12_depth_52 (by decide) ?_
        refine tm_aload_n dX12_depth_54 rfl 3 rfl ?_
        refine tm_get (k := 78) (v := .ref (b + 1 + 49)) lay_12 dX12_depth_55 (by decide) fl12_167 rfl ?_
        refine tm_iload_n dX12_depth_58 rfl 2 rfl ?_
        refine tm_iald (z := c) (v := σ.2.1 78 c) dX12_depth_59 (show mT[49]? = some (78, 0, 27) from rfl) (by omega) (by omega) (by decide) (rfl) ?_
        have g3 := RG.a hR 78 (c)
        refine tm_imul dX12_depth_60 ?_
        refine tm_iload dX12_depth_61 1 rfl ?_
        refine tm_iadd dX12_depth_63 ?_
        refine tm_iald (z := (12 * (σ.2.1 78 c)) + f) (v := σ.2.1 16 ((12 * (σ.2.1 78 c)) + f)) dX12_depth_64 (show mT[13]? = some (16, 0, 72) from rfl) (by omega) (by omega) (by decide) (rfl) ?_
        have g4 := RG.a hR 16 ((12 * (σ.2.1 78 c)) + f)
        refine tm_istore (L' := [(4, .int (iI (σ.2.1 16 ((12 * (σ.2.1 78 c)) + f)))), (2, .int (iI (n1 + 1))), (3, .int (iI c)), (0, .ref b), (1, .int (iI m))]) dX12_depth_65 (by decide) rfl ?_
        refine tm_goto (tgt := 30) dX12_depth_67 (by decide) ?_
        exact tm_sub [0, 2, 1, 3, 4] rfl (ih _ (by first | omega | (rw [← hpr]; omega)) (n1 + 1) (σ.2.1 16 ((12 * (σ.2.1 78 c)) + f)) (by first | omega | (rw [← hpr]; omega)) (by first | (rw [← hpr]; omega) | (rw [hpr] at hst; omega)) rfl)
      · have hpr : pr σ m c f = -1 := if_pos (by omega)
        refine tm_iconst dX12_depth_44 ?_
        refine tm_goto (tgt := 65) dX12_depth_45 (by decide) ?_
        refine tm_istore (L' := [(4, .int (iI (-1))), (2, .int (iI (n1 + 1))), (3, .int (iI c)), (0, .ref b), (1, .int (iI m))]) dX12_depth_65 (by decide) rfl ?_
        refine tm_goto (tgt := 30) dX12_depth_67 (by decide) ?_
        exact tm_sub [0, 2, 1, 3, 4] rfl (ih _ (by first | omega | (rw [← hpr]; omega)) (n1 + 1) (-1) (by first | omega | (rw [← hpr]; omega)) (by first | (rw [← hpr]; omega) | (rw [hpr] at hst; omega)) rfl)
theorem dX12_depth_7 : decode cX12_depth 7 = .ok (.iload_n 3, 1) := by decide +kernel
theorem dX12_depth_8 : decode cX12_depth 8 = .ok (.bipush 9, 2) := by decide +kernel
theorem dX12_depth_10 : decode cX12_depth 10 = .ok (.iload_n 1, 1) := by decide +kernel
theorem dX12_depth_11 : decode cX12_depth 11 = .ok (.imul, 1) := by decide +kernel
theorem dX12_depth_12 : decode cX12_depth 12 = .ok (.aload_n 0, 1) := by decide +kernel
theorem dX12_depth_13 : decode cX12_depth 13 = .ok (.getfield 152, 3) := by decide +kernel
theorem dX12_depth_16 : decode cX12_depth 16 = .ok (.iload_n 1, 1) := by decide +kernel
theorem dX12_depth_17 : decode cX12_depth 17 = .ok (.iaload, 1) := by decide +kernel
theorem dX12_depth_18 : decode cX12_depth 18 = .ok (.iadd, 1) := by decide +kernel
theorem dX12_depth_19 : decode cX12_depth 19 = .ok (.if_icmp .ge 57, 3) := by decide +kernel
theorem dX12_depth_22 : decode cX12_depth 22 = .ok (.aload_n 0, 1) := by decide +kernel
theorem dX12_depth_23 : decode cX12_depth 23 = .ok (.getfield 173, 3) := by decide +kernel
theorem dX12_depth_26 : decode cX12_depth 26 = .ok (.iload_n 3, 1) := by decide +kernel
theorem dX12_depth_27 : decode cX12_depth 27 = .ok (.iaload, 1) := by decide +kernel
theorem dX12_depth_28 : decode cX12_depth 28 = .ok (.istore 4, 2) := by decide +kernel
theorem dX12_depth_70 : decode cX12_depth 70 = .ok (.iinc 3 1, 3) := by decide +kernel
theorem dX12_depth_73 : decode cX12_depth 73 = .ok (.goto (-66), 3) := by decide +kernel
set_option maxHeartbeats 4000000 in
set_option maxRecDepth 20000 in
theorem l_depth1 (d : Nat) {b : Nat} {σ : MS} {m : Int} {post : Option Value → MS → Prop} (hR : RG σ) (hm2 : 0 ≤ m ∧ m ≤ 2) (hmc : 0 ≤ σ.2.1 73 m ∧ σ.2.1 73 m ≤ 9) (hde : ∀ c, 9 * m ≤ c → c < 9 * m + σ.2.1 73 m → ∃ F, DEC σ m c F) (hx_76 : ∀ (n1 : Int) (c : Int) , (n1 = dpt σ m) → (0 ≤ n1 ∧ n1 ≤ 117) → Tm (d + 1) m_X12_depth 76 b σ [(3, .int (iI c)), (2, .int (iI n1)), (0, .ref b), (1, .int (iI m))] [] post) : ∀ (n : Nat) (n1 : Int) (c : Int) , (9 * m ≤ c ∧ c ≤ 9 * m + σ.2.1 73 m ∧ 0 ≤ n1 ∧ n1 ≤ 13 * (c - 9 * m)) → (n1 = sm (fun j => dch σ m (9 * m + j)) (c - 9 * m).toNat) → (9 * m + σ.2.1 73 m - c).toNat = n → Tm (d + 1) m_X12_depth 7 b σ [(3, .int (iI c)), (2, .int (iI n1)), (0, .ref b), (1, .int (iI m))] [] post := by
  intro n
  induction n using Nat.strongRecOn with
  | _ n ih =>
    intro n1 c h0 hn hm
    refine tm_iload_n dX12_depth_7 rfl 0 rfl ?_
    refine tm_bipush dX12_depth_8 (by decide) ?_
    refine tm_iload_n dX12_depth_10 rfl 3 rfl ?_
    refine tm_imul dX12_depth_11 ?_
    refine tm_aload_n dX12_depth_12 rfl 2 rfl ?_
    refine tm_get (k := 73) (v := .ref (b + 1 + 44)) lay_12 dX12_depth_13 (by decide) fl12_152 rfl ?_
    refine tm_iload_n dX12_depth_16 rfl 3 rfl ?_
    refine tm_iald (z := m) (v := σ.2.1 73 m) dX12_depth_17 (show mT[44]? = some (73, 0, 3) from rfl) (by omega) (by omega) (by decide) (rfl) ?_
    have g1 := RG.a hR 73 (m)
    refine tm_iadd dX12_depth_18 ?_
    refine tm_icmp_ge (tgt := 76) dX12_depth_19 (by decide) ⟨by omega, by omega⟩ ⟨by omega, by omega⟩ (fun h2 => ?_) (fun h2 => ?_)
    · exact tm_sub [0, 1, 2, 3] rfl (hx_76 (n1) (c) (by rw [hn, dpt, show c - 9 * m = σ.2.1 73 m by omega]) (by omega))
    · obtain ⟨F, hd⟩ := hde c (by omega) (by omega)
      have hd1 := hd.1
      have hd2 := hd.2.1
      have hrg := ch_rng (p := pr σ m c) 13 (σ.2.1 80 c)
      refine tm_aload_n dX12_depth_22 rfl 2 rfl ?_
      refine tm_get (k := 80) (v := .ref (b + 1 + 51)) lay_12 dX12_depth_23 (by decide) fl12_173 rfl ?_
      refine tm_iload_n dX12_depth_26 rfl 0 rfl ?_
      refine tm_iald (z := c) (v := σ.2.1 80 c) dX12_depth_27 (show mT[51]? = some (80, 0, 27) from rfl) (by omega) (by omega) (by decide) (rfl) ?_
      have g3 := RG.a hR 80 (c)
      refine tm_istore (L' := [(4, .int (iI (σ.2.1 80 c))), (3, .int (iI c)), (2, .int (iI n1)), (0, .ref b), (1, .int (iI m))]) dX12_depth_28 (by decide) rfl ?_
      refine tm_sub [0, 1, 2, 3, 4] rfl (l_depth2 (d) (σ := σ) (m := m) (c := c) (F := F) (N0 := n1 + dch σ m c) hR hm2 (by omega) hd (by unfold dch; omega) (fun n19 f10 f8 => ?_) _ (n1) (σ.2.1 80 c) (by omega) (by rfl) rfl)
      show Tm _ _ 70 b σ [(4, .int (iI f10)), (3, .int (iI c)), (2, .int (iI n19)), (0, .ref b), (1, .int (iI m))] [] _
      refine tm_iinc (q0 := 1) (L' := [(3, .int (iI (c + 1))), (4, .int (iI f10)), (2, .int (iI n19)), (0, .ref b), (1, .int (iI m))]) dX12_depth_70 rfl (by decide) rfl ?_
      refine tm_goto (tgt := 7) dX12_depth_73 (by decide) ?_
      exact tm_sub [0, 2, 3, 4] rfl (ih _ (by omega) (n19) (c + 1) (by unfold dch at *; omega) (by
          rw [f8, hn, show (c + 1 - 9 * m).toNat = (c - 9 * m).toNat + 1 by omega]
          show _ = sm _ _ + dch σ m (9 * m + ((c - 9 * m).toNat : Int))
          rw [show 9 * m + ((c - 9 * m).toNat : Int) = c by omega]) rfl)
theorem dX12_depth_0 : decode cX12_depth 0 = .ok (.iconst 0, 1) := by decide +kernel
theorem dX12_depth_1 : decode cX12_depth 1 = .ok (.istore_n 2, 1) := by decide +kernel
theorem dX12_depth_2 : decode cX12_depth 2 = .ok (.bipush 9, 2) := by decide +kernel
theorem dX12_depth_4 : decode cX12_depth 4 = .ok (.iload_n 1, 1) := by decide +kernel
theorem dX12_depth_5 : decode cX12_depth 5 = .ok (.imul, 1) := by decide +kernel
theorem dX12_depth_6 : decode cX12_depth 6 = .ok (.istore_n 3, 1) := by decide +kernel
theorem dX12_depth_76 : decode cX12_depth 76 = .ok (.iload_n 2, 1) := by decide +kernel
theorem dX12_depth_77 : decode cX12_depth 77 = .ok (.ireturn, 1) := by decide +kernel
set_option maxHeartbeats 4000000 in
set_option maxRecDepth 20000 in
theorem c_X12_depth (d : Nat) {b : Nat} {σ : MS} {m : Int} (hR : RG σ) (hm2 : 0 ≤ m ∧ m ≤ 2) (hmc : 0 ≤ σ.2.1 73 m ∧ σ.2.1 73 m ≤ 9) (hde : ∀ c, 9 * m ≤ c → c < 9 * m + σ.2.1 73 m → ∃ F, DEC σ m c F) : Tm (d + 1) m_X12_depth 0 b σ [(0, .ref b), (1, .int (iI m))] [] (fun ro σ2 => ∃ v : Int, ro = some (.int (iI v)) ∧ σ = σ2 ∧ (v = dpt σ m) ∧ (0 ≤ v ∧ v ≤ 117)) := by
  refine tm_iconst dX12_depth_0 ?_
  refine tm_istore_n (L' := [(2, .int (iI 0)), (0, .ref b), (1, .int (iI m))]) dX12_depth_1 rfl (by decide) rfl ?_
  refine tm_bipush dX12_depth_2 (by decide) ?_
  refine tm_iload_n dX12_depth_4 rfl 2 rfl ?_
  refine tm_imul dX12_depth_5 ?_
  refine tm_istore_n (L' := [(3, .int (iI (9 * m))), (2, .int (iI 0)), (0, .ref b), (1, .int (iI m))]) dX12_depth_6 rfl (by decide) rfl ?_
  refine tm_sub [0, 1, 2, 3] rfl (l_depth1 (d) (σ := σ) (m := m) hR hm2 hmc hde (fun n17 c8 f5 f6 => ?_) _ (0) (9 * m) (by omega) (by rw [show (9 * m - 9 * m).toNat = 0 by omega]; rfl) rfl)
  show Tm _ _ 76 b σ [(3, .int (iI c8)), (2, .int (iI n17)), (0, .ref b), (1, .int (iI m))] [] _
  refine tm_iload_n dX12_depth_76 rfl 1 rfl ?_
  exact tm_iret rfl dX12_depth_77 (⟨_, rfl, rfl, f5, by omega⟩)
