/-! how many of n from lo on are not -1; of all rows that are reached -/
def cl (f : Int → Int) (lo : Int) : Nat → Nat
  | 0 => 0
  | n + 1 => cl f lo n + (if f (lo + n) = -1 then 0 else 1)
theorem cl_le (f : Int → Int) (lo : Int) (n : Nat) : cl f lo n ≤ n := by
  induction n with
  | zero => exact Nat.le_refl _
  | succ n ih => unfold cl; split <;> omega
theorem cl_ext {f g : Int → Int} {lo : Int} (n : Nat) (h : ∀ j : Int, 0 ≤ j → j < n → f (lo + j) = g (lo + j)) : cl f lo n = cl g lo n := by
  induction n with
  | zero => rfl
  | succ n ih =>
    unfold cl
    rw [ih (fun j a b => h j a (by omega)), h n (by omega) (by omega)]
theorem cl_upd {f : Int → Int} {lo z v : Int} {n : Nat} (h0 : lo ≤ z) (h1 : z < lo + n) : cl (fun q => if q = z then v else f q) lo n + (if f z = -1 then 0 else 1) = cl f lo n + (if v = -1 then 0 else 1) := by
  induction n with
  | zero => omega
  | succ n ih =>
    unfold cl
    by_cases e : z = lo + n
    · have h2 : cl (fun q => if q = z then v else f q) lo n = cl f lo n := cl_ext n (fun j a b => if_neg (by omega))
      rw [h2, if_pos e.symm, ← e]
      omega
    · have h2 := ih (by omega)
      have h3 : (if lo + (n : Int) = z then v else f (lo + n)) = f (lo + n) := if_neg (fun q => e q.symm)
      rw [h3]
      omega
def cr (p f : Int → Int) : Nat → Nat
  | 0 => 0
  | k + 1 => cr p f k + (if p k = 1 then cl f (192 * k) 192 else 0)
theorem cr_one {p q f g : Int → Int} {t : Int} (n : Nat) (h0 : 0 ≤ t) (h1 : t < n) (hp : ∀ k, k ≠ t → q k = p k) (hf : ∀ y, (y < 192 * t ∨ 192 * t + 192 ≤ y) → g y = f y) : cr q g n + (if p t = 1 then cl f (192 * t) 192 else 0) = cr p f n + (if q t = 1 then cl g (192 * t) 192 else 0) := by
  have same : ∀ k : Nat, (k : Int) ≠ t → (if q k = 1 then cl g (192 * k) 192 else 0) = (if p k = 1 then cl f (192 * k) 192 else 0) := fun k hk => by
    rw [hp k hk, cl_ext (f := g) (g := f) 192 (fun j a b => hf _ (by omega))]
  have low : ∀ m : Nat, (m : Int) ≤ t → cr q g m = cr p f m := fun m => by
    induction m with
    | zero => intro _; rfl
    | succ m ih => intro hm; unfold cr; rw [ih (by omega), same m (by omega)]
  induction n with
  | zero => omega
  | succ n ih =>
    unfold cr
    by_cases e : (n : Int) = t
    · rw [low n (by omega), e]
      omega
    · have := ih (by omega)
      rw [same n e]
      omega

theorem fl12_149 : Cond.fieldLink RX12 149 (TX12 66).1 (TX12 66).2.1 (TX12 66).2.2.1 ∈ pWW := pw7 (List.mem_of_getElem? (i := 73) rfl) rfl
theorem fl12_146 : Cond.fieldLink RX12 146 (TX12 65).1 (TX12 65).2.1 (TX12 65).2.2.1 ∈ pWW := pw7 (List.mem_of_getElem? (i := 72) rfl) rfl
theorem dX12_comesLast_17 : decode cX12_comesLast 17 = .ok (.iload_n 3, 1) := by decide +kernel
theorem dX12_comesLast_18 : decode cX12_comesLast 18 = .ok (.sipush 192, 3) := by decide +kernel
theorem dX12_comesLast_21 : decode cX12_comesLast 21 = .ok (.if_icmp .ge 84, 3) := by decide +kernel
theorem dX12_comesLast_24 : decode cX12_comesLast 24 = .ok (.sipush 192, 3) := by decide +kernel
theorem dX12_comesLast_27 : decode cX12_comesLast 27 = .ok (.iload_n 1, 1) := by decide +kernel
theorem dX12_comesLast_28 : decode cX12_comesLast 28 = .ok (.imul, 1) := by decide +kernel
theorem dX12_comesLast_29 : decode cX12_comesLast 29 = .ok (.iload_n 3, 1) := by decide +kernel
theorem dX12_comesLast_30 : decode cX12_comesLast 30 = .ok (.iadd, 1) := by decide +kernel
theorem dX12_comesLast_31 : decode cX12_comesLast 31 = .ok (.istore 4, 2) := by decide +kernel
theorem dX12_comesLast_33 : decode cX12_comesLast 33 = .ok (.aload_n 0, 1) := by decide +kernel
theorem dX12_comesLast_34 : decode cX12_comesLast 34 = .ok (.getfield 91, 3) := by decide +kernel
theorem dX12_comesLast_37 : decode cX12_comesLast 37 = .ok (.iload_n 1, 1) := by decide +kernel
theorem dX12_comesLast_38 : decode cX12_comesLast 38 = .ok (.baload, 1) := by decide +kernel
theorem dX12_comesLast_39 : decode cX12_comesLast 39 = .ok (.ifCond .eq 19, 3) := by decide +kernel
theorem dX12_comesLast_58 : decode cX12_comesLast 58 = .ok (.aload_n 0, 1) := by decide +kernel
theorem dX12_comesLast_59 : decode cX12_comesLast 59 = .ok (.getfield 149, 3) := by decide +kernel
theorem dX12_comesLast_62 : decode cX12_comesLast 62 = .ok (.iload_n 3, 1) := by decide +kernel
theorem dX12_comesLast_63 : decode cX12_comesLast 63 = .ok (.iaload, 1) := by decide +kernel
theorem dX12_comesLast_64 : decode cX12_comesLast 64 = .ok (.goto 4, 3) := by decide +kernel
theorem dX12_comesLast_68 : decode cX12_comesLast 68 = .ok (.istore 5, 2) := by decide +kernel
theorem dX12_comesLast_70 : decode cX12_comesLast 70 = .ok (.iload_n 2, 1) := by decide +kernel
theorem dX12_comesLast_71 : decode cX12_comesLast 71 = .ok (.aload_n 0, 1) := by decide +kernel
theorem dX12_comesLast_72 : decode cX12_comesLast 72 = .ok (.getfield 146, 3) := by decide +kernel
theorem dX12_comesLast_75 : decode cX12_comesLast 75 = .ok (.iload 4, 2) := by decide +kernel
theorem dX12_comesLast_77 : decode cX12_comesLast 77 = .ok (.iaload, 1) := by decide +kernel
theorem dX12_comesLast_78 : decode cX12_comesLast 78 = .ok (.iload 5, 2) := by decide +kernel
theorem dX12_comesLast_80 : decode cX12_comesLast 80 = .ok (.if_icmp .eq 7, 3) := by decide +kernel
theorem dX12_comesLast_87 : decode cX12_comesLast 87 = .ok (.iconst 0, 1) := by decide +kernel
theorem dX12_comesLast_88 : decode cX12_comesLast 88 = .ok (.ior, 1) := by decide +kernel
theorem dX12_comesLast_89 : decode cX12_comesLast 89 = .ok (.istore_n 2, 1) := by decide +kernel
theorem dX12_comesLast_90 : decode cX12_comesLast 90 = .ok (.aload_n 0, 1) := by decide +kernel
theorem dX12_comesLast_91 : decode cX12_comesLast 91 = .ok (.getfield 146, 3) := by decide +kernel
theorem dX12_comesLast_94 : decode cX12_comesLast 94 = .ok (.iload 4, 2) := by decide +kernel
theorem dX12_comesLast_96 : decode cX12_comesLast 96 = .ok (.iload 5, 2) := by decide +kernel
theorem dX12_comesLast_98 : decode cX12_comesLast 98 = .ok (.iastore, 1) := by decide +kernel
theorem dX12_comesLast_99 : decode cX12_comesLast 99 = .ok (.iinc 3 1, 3) := by decide +kernel
theorem dX12_comesLast_102 : decode cX12_comesLast 102 = .ok (.goto (-85), 3) := by decide +kernel
theorem dX12_comesLast_83 : decode cX12_comesLast 83 = .ok (.iconst 1, 1) := by decide +kernel
theorem dX12_comesLast_84 : decode cX12_comesLast 84 = .ok (.goto 4, 3) := by decide +kernel
theorem dX12_comesLast_42 : decode cX12_comesLast 42 = .ok (.aload_n 0, 1) := by decide +kernel
theorem dX12_comesLast_43 : decode cX12_comesLast 43 = .ok (.getfield 146, 3) := by decide +kernel
theorem dX12_comesLast_46 : decode cX12_comesLast 46 = .ok (.iload 4, 2) := by decide +kernel
theorem dX12_comesLast_48 : decode cX12_comesLast 48 = .ok (.iaload, 1) := by decide +kernel
theorem dX12_comesLast_49 : decode cX12_comesLast 49 = .ok (.aload_n 0, 1) := by decide +kernel
theorem dX12_comesLast_50 : decode cX12_comesLast 50 = .ok (.getfield 149, 3) := by decide +kernel
theorem dX12_comesLast_53 : decode cX12_comesLast 53 = .ok (.iload_n 3, 1) := by decide +kernel
theorem dX12_comesLast_54 : decode cX12_comesLast 54 = .ok (.iaload, 1) := by decide +kernel
theorem dX12_comesLast_55 : decode cX12_comesLast 55 = .ok (.if_icmp .ne 12, 3) := by decide +kernel
theorem dX12_comesLast_67 : decode cX12_comesLast 67 = .ok (.iconst (-1), 1) := by decide +kernel
set_option maxHeartbeats 4000000 in
set_option maxRecDepth 20000 in
theorem l_comesLast (d : Nat) {b : Nat} {σ0 : MS} {to : Int} {C0 : Int} {post : Option Value → MS → Prop} (hR0 : RG σ0) (hto : 0 ≤ to ∧ to ≤ 220) (hbo : BO 47 σ0) (hx_105 : ∀ (w : Int) (g : Int) (σ : MS) , (Fr [] [65] [] σ0 σ) → (RG σ) → ((w = 0 ∨ w = 1) ∧ (σ0.2.1 47 to = 0 → w = 1)) → (σ0.2.1 47 to = 1 → (cl (σ.2.1 65) (192 * to) 192 : Int) + w ≤ C0) → (∀ y, (y < 192 * to ∨ 192 * to + 192 ≤ y) → σ.2.1 65 y = σ0.2.1 65 y) → Tm (d + 1) m_X12_comesLast 105 b σ [(3, .int (iI g)), (2, .int (iI w)), (0, .ref b), (1, .int (iI to))] [] post) : ∀ (n : Nat) (w : Int) (g : Int) (σ : MS) , (Fr [] [65] [] σ0 σ) → (RG σ) → (0 ≤ g ∧ g ≤ 192 ∧ (w = 0 ∨ w = 1) ∧ (σ0.2.1 47 to = 0 → w = 1)) → (σ0.2.1 47 to = 1 → (cl (σ.2.1 65) (192 * to) 192 : Int) + w ≤ C0) → (∀ y, (y < 192 * to ∨ 192 * to + 192 ≤ y) → σ.2.1 65 y = σ0.2.1 65 y) → (192 - g).toNat = n → Tm (d + 1) m_X12_comesLast 17 b σ [(3, .int (iI g)), (2, .int (iI w)), (0, .ref b), (1, .int (iI to))] [] post := by
  intro n
  induction n using Nat.strongRecOn with
  | _ n ih =>
    intro w g σ hF hR h0 hcl hre hm
    refine tm_iload_n dX12_comesLast_17 rfl 0 rfl ?_
    refine tm_sipush dX12_comesLast_18 (by decide) ?_
    refine tm_icmp_ge (tgt := 105) dX12_comesLast_21 (by decide) ⟨by omega, by omega⟩ ⟨by decide, by decide⟩ (fun h1 => ?_) (fun h1 => ?_)
    · exact tm_sub [0, 1, 2, 3] rfl (hx_105 (w) (g) σ (Fr.rfl.trans (Fr.sub hF (by decide) (by decide) (by decide))) hR (by omega) hcl hre)
    · refine tm_sipush dX12_comesLast_24 (by decide) ?_
      refine tm_iload_n dX12_comesLast_27 rfl 3 rfl ?_
      refine tm_imul dX12_comesLast_28 ?_
      refine tm_iload_n dX12_comesLast_29 rfl 0 rfl ?_
      refine tm_iadd dX12_comesLast_30 ?_
      refine tm_istore (L' := [(4, .int (iI ((192 * to) + g))), (3, .int (iI g)), (2, .int (iI w)), (0, .ref b), (1, .int (iI to))]) dX12_comesLast_31 (by decide) rfl ?_
      refine tm_aload_n dX12_comesLast_33 rfl 3 rfl ?_
      refine tm_get (k := 47) (v := .ref (b + 1 + 25)) lay_12 dX12_comesLast_34 (by decide) fl12_91 rfl ?_
      refine tm_iload_n dX12_comesLast_37 rfl 4 rfl ?_
      refine tm_zald (z := to) (v := σ0.2.1 47 to) dX12_comesLast_38 (show mT[25]? = some (47, 2, 221) from rfl) (by omega) (by omega) (by decide) (ra_F hF (by decide) (rfl)) ?_
      have g2 := RG.a hR0 47 (to)
      have := hbo (to)
      refine tm_if_eq (tgt := 58) dX12_comesLast_39 (by decide) ⟨by omega, by omega⟩ (fun h3 => ?_) (fun h3 => ?_)
      · refine tm_aload_n dX12_comesLast_58 rfl 3 rfl ?_
        refine tm_get (k := 66) (v := .ref (b + 1 + 43)) lay_12 dX12_comesLast_59 (by decide) fl12_149 rfl ?_
        refine tm_iload_n dX12_comesLast_62 rfl 1 rfl ?_
        refine tm_iald (z := g) (v := σ0.2.1 66 g) dX12_comesLast_63 (show mT[43]? = some (66, 0, 192) from rfl) (by omega) (by omega) (by decide) (ra_F hF (by decide) (rfl)) ?_
        have g4 := RG.a hR0 66 (g)
        refine tm_goto (tgt := 68) dX12_comesLast_64 (by decide) ?_
        refine tm_istore (L' := [(5, .int (iI (σ0.2.1 66 g))), (4, .int (iI ((192 * to) + g))), (3, .int (iI g)), (2, .int (iI w)), (0, .ref b), (1, .int (iI to))]) dX12_comesLast_68 (by decide) rfl ?_
        refine tm_iload_n dX12_comesLast_70 rfl 3 rfl ?_
        refine tm_aload_n dX12_comesLast_71 rfl 4 rfl ?_
        refine tm_get (k := 65) (v := .ref (b + 1 + 42)) lay_12 dX12_comesLast_72 (by decide) fl12_146 rfl ?_
        refine tm_iload dX12_comesLast_75 1 rfl ?_
        refine tm_iald (z := (192 * to) + g) (v := σ.2.1 65 ((192 * to) + g)) dX12_comesLast_77 (show mT[42]? = some (65, 0, 42432) from rfl) (by omega) (by omega) (by decide) (rfl) ?_
        have g5 := RG.a hR 65 ((192 * to) + g)
        refine tm_iload dX12_comesLast_78 0 rfl ?_
        refine tm_icmp_eq (tgt := 87) dX12_comesLast_80 (by decide) ⟨by omega, by omega⟩ ⟨by omega, by omega⟩ (fun h6 => ?_) (fun h6 => ?_)
        · refine tm_iconst dX12_comesLast_87 ?_
          refine tm_iorZ (x := w) (y := 0) dX12_comesLast_88 (by omega) (by omega) (fun c7 g8 => ?_)
          refine tm_istore_n (L' := [(2, .int (iI c7)), (5, .int (iI (σ0.2.1 66 g))), (4, .int (iI ((192 * to) + g))), (3, .int (iI g)), (0, .ref b), (1, .int (iI to))]) dX12_comesLast_89 rfl (by decide) rfl ?_
          refine tm_aload_n dX12_comesLast_90 rfl 4 rfl ?_
          refine tm_get (k := 65) (v := .ref (b + 1 + 42)) lay_12 dX12_comesLast_91 (by decide) fl12_146 rfl ?_
          refine tm_iload dX12_comesLast_94 2 rfl ?_
          refine tm_iload dX12_comesLast_96 1 rfl ?_
          refine tm_iast (z := (192 * to) + g) (v := σ0.2.1 66 g) dX12_comesLast_98 (show mT[42]? = some (65, 0, 42432) from rfl) (by omega) (by omega) (by decide) ?_
          refine tm_iinc (q0 := 3) (L' := [(3, .int (iI (g + 1))), (2, .int (iI c7)), (5, .int (iI (σ0.2.1 66 g))), (4, .int (iI ((192 * to) + g))), (0, .ref b), (1, .int (iI to))]) dX12_comesLast_99 rfl (by decide) rfl ?_
          refine tm_goto (tgt := 17) dX12_comesLast_102 (by decide) ?_
          exact tm_sub [0, 1, 4, 5] rfl (ih _ (by omega) (c7) (g + 1) (sA 65 ((192 * to) + g) (σ0.2.1 66 g) σ) ((Fr.rfl.trans (Fr.sub hF (by decide) (by decide) (by decide))).A (by decide)) (hR.A (by omega)) (by omega) (fun e => by
          have hq := cl_upd (f := σ.2.1 65) (lo := 192 * to) (z := 192 * to + g) (v := σ0.2.1 66 g) (n := 192) (by omega) (by omega)
          have hs : (sA 65 ((192 * to) + g) (σ0.2.1 66 g) σ).2.1 65 = fun q => if q = 192 * to + g then σ0.2.1 66 g else σ.2.1 65 q := by simp only [sA, if_true]
          rw [hs]
          generalize cl (fun q => if q = 192 * to + g then σ0.2.1 66 g else σ.2.1 65 q) (192 * to) 192 = a at hq ⊢
          have := hcl e
          split at hq <;> split at hq <;> omega) (fun y c => ra_ne (by omega) (hre y c)) rfl)
        · refine tm_iconst dX12_comesLast_83 ?_
          refine tm_goto (tgt := 88) dX12_comesLast_84 (by decide) ?_
          refine tm_iorZ (x := w) (y := 1) dX12_comesLast_88 (by omega) (by omega) (fun c9 g10 => ?_)
          refine tm_istore_n (L' := [(2, .int (iI c9)), (5, .int (iI (σ0.2.1 66 g))), (4, .int (iI ((192 * to) + g))), (3, .int (iI g)), (0, .ref b), (1, .int (iI to))]) dX12_comesLast_89 rfl (by decide) rfl ?_
          refine tm_aload_n dX12_comesLast_90 rfl 4 rfl ?_
          refine tm_get (k := 65) (v := .ref (b + 1 + 42)) lay_12 dX12_comesLast_91 (by decide) fl12_146 rfl ?_
          refine tm_iload dX12_comesLast_94 2 rfl ?_
          refine tm_iload dX12_comesLast_96 1 rfl ?_
          refine tm_iast (z := (192 * to) + g) (v := σ0.2.1 66 g) dX12_comesLast_98 (show mT[42]? = some (65, 0, 42432) from rfl) (by omega) (by omega) (by decide) ?_
          refine tm_iinc (q0 := 3) (L' := [(3, .int (iI (g + 1))), (2, .int (iI c9)), (5, .int (iI (σ0.2.1 66 g))), (4, .int (iI ((192 * to) + g))), (0, .ref b), (1, .int (iI to))]) dX12_comesLast_99 rfl (by decide) rfl ?_
          refine tm_goto (tgt := 17) dX12_comesLast_102 (by decide) ?_
          exact tm_sub [0, 1, 4, 5] rfl (ih _ (by omega) (c9) (g + 1) (sA 65 ((192 * to) + g) (σ0.2.1 66 g) σ) ((Fr.rfl.trans (Fr.sub hF (by decide) (by decide) (by decide))).A (by decide)) (hR.A (by omega)) (by omega) (fun e => by
          have hq := cl_upd (f := σ.2.1 65) (lo := 192 * to) (z := 192 * to + g) (v := σ0.2.1 66 g) (n := 192) (by omega) (by omega)
          have hs : (sA 65 ((192 * to) + g) (σ0.2.1 66 g) σ).2.1 65 = fun q => if q = 192 * to + g then σ0.2.1 66 g else σ.2.1 65 q := by simp only [sA, if_true]
          rw [hs]
          generalize cl (fun q => if q = 192 * to + g then σ0.2.1 66 g else σ.2.1 65 q) (192 * to) 192 = a at hq ⊢
          have := hcl e
          split at hq <;> split at hq <;> omega) (fun y c => ra_ne (by omega) (hre y c)) rfl)
      · refine tm_aload_n dX12_comesLast_42 rfl 3 rfl ?_
        refine tm_get (k := 65) (v := .ref (b + 1 + 42)) lay_12 dX12_comesLast_43 (by decide) fl12_146 rfl ?_
        refine tm_iload dX12_comesLast_46 0 rfl ?_
        refine tm_iald (z := (192 * to) + g) (v := σ.2.1 65 ((192 * to) + g)) dX12_comesLast_48 (show mT[42]? = some (65, 0, 42432) from rfl) (by omega) (by omega) (by decide) (rfl) ?_
        have g11 := RG.a hR 65 ((192 * to) + g)
        refine tm_aload_n dX12_comesLast_49 rfl 3 rfl ?_
        refine tm_get (k := 66) (v := .ref (b + 1 + 43)) lay_12 dX12_comesLast_50 (by decide) fl12_149 rfl ?_
        refine tm_iload_n dX12_comesLast_53 rfl 1 rfl ?_
        refine tm_iald (z := g) (v := σ0.2.1 66 g) dX12_comesLast_54 (show mT[43]? = some (66, 0, 192) from rfl) (by omega) (by omega) (by decide) (ra_F hF (by decide) (rfl)) ?_
        have g12 := RG.a hR0 66 (g)
        refine tm_icmp_ne (tgt := 67) dX12_comesLast_55 (by decide) ⟨by omega, by omega⟩ ⟨by omega, by omega⟩ (fun h13 => ?_) (fun h13 => ?_)
        · refine tm_iconst dX12_comesLast_67 ?_
          refine tm_istore (L' := [(5, .int (iI (-1))), (4, .int (iI ((192 * to) + g))), (3, .int (iI g)), (2, .int (iI w)), (0, .ref b), (1, .int (iI to))]) dX12_comesLast_68 (by decide) rfl ?_
          refine tm_iload_n dX12_comesLast_70 rfl 3 rfl ?_
          refine tm_aload_n dX12_comesLast_71 rfl 4 rfl ?_
          refine tm_get (k := 65) (v := .ref (b + 1 + 42)) lay_12 dX12_comesLast_72 (by decide) fl12_146 rfl ?_
          refine tm_iload dX12_comesLast_75 1 rfl ?_
          refine tm_iald (z := (192 * to) + g) (v := σ.2.1 65 ((192 * to) + g)) dX12_comesLast_77 (show mT[42]? = some (65, 0, 42432) from rfl) (by omega) (by omega) (by decide) (rfl) ?_
          have g14 := RG.a hR 65 ((192 * to) + g)
          refine tm_iload dX12_comesLast_78 0 rfl ?_
          refine tm_icmp_eq (tgt := 87) dX12_comesLast_80 (by decide) ⟨by omega, by omega⟩ ⟨by decide, by decide⟩ (fun h15 => ?_) (fun h15 => ?_)
          · refine tm_iconst dX12_comesLast_87 ?_
            refine tm_iorZ (x := w) (y := 0) dX12_comesLast_88 (by omega) (by omega) (fun c16 g17 => ?_)
            refine tm_istore_n (L' := [(2, .int (iI c16)), (5, .int (iI (-1))), (4, .int (iI ((192 * to) + g))), (3, .int (iI g)), (0, .ref b), (1, .int (iI to))]) dX12_comesLast_89 rfl (by decide) rfl ?_
            refine tm_aload_n dX12_comesLast_90 rfl 4 rfl ?_
            refine tm_get (k := 65) (v := .ref (b + 1 + 42)) lay_12 dX12_comesLast_91 (by decide) fl12_146 rfl ?_
            refine tm_iload dX12_comesLast_94 2 rfl ?_
            refine tm_iload dX12_comesLast_96 1 rfl ?_
            refine tm_iast (z := (192 * to) + g) (v := -1) dX12_comesLast_98 (show mT[42]? = some (65, 0, 42432) from rfl) (by omega) (by omega) (by decide) ?_
            refine tm_iinc (q0 := 3) (L' := [(3, .int (iI (g + 1))), (2, .int (iI c16)), (5, .int (iI (-1))), (4, .int (iI ((192 * to) + g))), (0, .ref b), (1, .int (iI to))]) dX12_comesLast_99 rfl (by decide) rfl ?_
            refine tm_goto (tgt := 17) dX12_comesLast_102 (by decide) ?_
            exact tm_sub [0, 1, 4, 5] rfl (ih _ (by omega) (c16) (g + 1) (sA 65 ((192 * to) + g) (-1) σ) ((Fr.rfl.trans (Fr.sub hF (by decide) (by decide) (by decide))).A (by decide)) (hR.A (by omega)) (by omega) (fun e => by
          have hq := cl_upd (f := σ.2.1 65) (lo := 192 * to) (z := 192 * to + g) (v := -1) (n := 192) (by omega) (by omega)
          have hs : (sA 65 ((192 * to) + g) (-1) σ).2.1 65 = fun q => if q = 192 * to + g then -1 else σ.2.1 65 q := by simp only [sA, if_true]
          rw [hs]
          generalize cl (fun q => if q = 192 * to + g then -1 else σ.2.1 65 q) (192 * to) 192 = a at hq ⊢
          have := hcl e
          split at hq <;> split at hq <;> omega) (fun y c => ra_ne (by omega) (hre y c)) rfl)
          · refine tm_iconst dX12_comesLast_83 ?_
            refine tm_goto (tgt := 88) dX12_comesLast_84 (by decide) ?_
            refine tm_iorZ (x := w) (y := 1) dX12_comesLast_88 (by omega) (by omega) (fun c18 g19 => ?_)
            refine tm_istore_n (L' := [(2, .int (iI c18)), (5, .int (iI (-1))), (4, .int (iI ((192 * to) + g))), (3, .int (iI g)), (0, .ref b), (1, .int (iI to))]) dX12_comesLast_89 rfl (by decide) rfl ?_
            refine tm_aload_n dX12_comesLast_90 rfl 4 rfl ?_
            refine tm_get (k := 65) (v := .ref (b + 1 + 42)) lay_12 dX12_comesLast_91 (by decide) fl12_146 rfl ?_
            refine tm_iload dX12_comesLast_94 2 rfl ?_
            refine tm_iload dX12_comesLast_96 1 rfl ?_
            refine tm_iast (z := (192 * to) + g) (v := -1) dX12_comesLast_98 (show mT[42]? = some (65, 0, 42432) from rfl) (by omega) (by omega) (by decide) ?_
            refine tm_iinc (q0 := 3) (L' := [(3, .int (iI (g + 1))), (2, .int (iI c18)), (5, .int (iI (-1))), (4, .int (iI ((192 * to) + g))), (0, .ref b), (1, .int (iI to))]) dX12_comesLast_99 rfl (by decide) rfl ?_
            refine tm_goto (tgt := 17) dX12_comesLast_102 (by decide) ?_
            exact tm_sub [0, 1, 4, 5] rfl (ih _ (by omega) (c18) (g + 1) (sA 65 ((192 * to) + g) (-1) σ) ((Fr.rfl.trans (Fr.sub hF (by decide) (by decide) (by decide))).A (by decide)) (hR.A (by omega)) (by omega) (fun e => by
          have hq := cl_upd (f := σ.2.1 65) (lo := 192 * to) (z := 192 * to + g) (v := -1) (n := 192) (by omega) (by omega)
          have hs : (sA 65 ((192 * to) + g) (-1) σ).2.1 65 = fun q => if q = 192 * to + g then -1 else σ.2.1 65 q := by simp only [sA, if_true]
          rw [hs]
          generalize cl (fun q => if q = 192 * to + g then -1 else σ.2.1 65 q) (192 * to) 192 = a at hq ⊢
          have := hcl e
          split at hq <;> split at hq <;> omega) (fun y c => ra_ne (by omega) (hre y c)) rfl)
        · refine tm_aload_n dX12_comesLast_58 rfl 3 rfl ?_
          refine tm_get (k := 66) (v := .ref (b + 1 + 43)) lay_12 dX12_comesLast_59 (by decide) fl12_149 rfl ?_
          refine tm_iload_n dX12_comesLast_62 rfl 1 rfl ?_
          refine tm_iald (z := g) (v := σ0.2.1 66 g) dX12_comesLast_63 (show mT[43]? = some (66, 0, 192) from rfl) (by omega) (by omega) (by decide) (ra_F hF (by decide) (rfl)) ?_
          have g20 := RG.a hR0 66 (g)
          refine tm_goto (tgt := 68) dX12_comesLast_64 (by decide) ?_
          refine tm_istore (L' := [(5, .int (iI (σ0.2.1 66 g))), (4, .int (iI ((192 * to) + g))), (3, .int (iI g)), (2, .int (iI w)), (0, .ref b), (1, .int (iI to))]) dX12_comesLast_68 (by decide) rfl ?_
          refine tm_iload_n dX12_comesLast_70 rfl 3 rfl ?_
          refine tm_aload_n dX12_comesLast_71 rfl 4 rfl ?_
          refine tm_get (k := 65) (v := .ref (b + 1 + 42)) lay_12 dX12_comesLast_72 (by decide) fl12_146 rfl ?_
          refine tm_iload dX12_comesLast_75 1 rfl ?_
          refine tm_iald (z := (192 * to) + g) (v := σ.2.1 65 ((192 * to) + g)) dX12_comesLast_77 (show mT[42]? = some (65, 0, 42432) from rfl) (by omega) (by omega) (by decide) (rfl) ?_
          have g21 := RG.a hR 65 ((192 * to) + g)
          refine tm_iload dX12_comesLast_78 0 rfl ?_
          refine tm_icmp_eq (tgt := 87) dX12_comesLast_80 (by decide) ⟨by omega, by omega⟩ ⟨by omega, by omega⟩ (fun h22 => ?_) (fun h22 => ?_)
          · refine tm_iconst dX12_comesLast_87 ?_
            refine tm_iorZ (x := w) (y := 0) dX12_comesLast_88 (by omega) (by omega) (fun c23 g24 => ?_)
            refine tm_istore_n (L' := [(2, .int (iI c23)), (5, .int (iI (σ0.2.1 66 g))), (4, .int (iI ((192 * to) + g))), (3, .int (iI g)), (0, .ref b), (1, .int (iI to))]) dX12_comesLast_89 rfl (by decide) rfl ?_
            refine tm_aload_n dX12_comesLast_90 rfl 4 rfl ?_
            refine tm_get (k := 65) (v := .ref (b + 1 + 42)) lay_12 dX12_comesLast_91 (by decide) fl12_146 rfl ?_
            refine tm_iload dX12_comesLast_94 2 rfl ?_
            refine tm_iload dX12_comesLast_96 1 rfl ?_
            refine tm_iast (z := (192 * to) + g) (v := σ0.2.1 66 g) dX12_comesLast_98 (show mT[42]? = some (65, 0, 42432) from rfl) (by omega) (by omega) (by decide) ?_
            refine tm_iinc (q0 := 3) (L' := [(3, .int (iI (g + 1))), (2, .int (iI c23)), (5, .int (iI (σ0.2.1 66 g))), (4, .int (iI ((192 * to) + g))), (0, .ref b), (1, .int (iI to))]) dX12_comesLast_99 rfl (by decide) rfl ?_
            refine tm_goto (tgt := 17) dX12_comesLast_102 (by decide) ?_
            exact tm_sub [0, 1, 4, 5] rfl (ih _ (by omega) (c23) (g + 1) (sA 65 ((192 * to) + g) (σ0.2.1 66 g) σ) ((Fr.rfl.trans (Fr.sub hF (by decide) (by decide) (by decide))).A (by decide)) (hR.A (by omega)) (by omega) (fun e => by
          have hq := cl_upd (f := σ.2.1 65) (lo := 192 * to) (z := 192 * to + g) (v := σ0.2.1 66 g) (n := 192) (by omega) (by omega)
          have hs : (sA 65 ((192 * to) + g) (σ0.2.1 66 g) σ).2.1 65 = fun q => if q = 192 * to + g then σ0.2.1 66 g else σ.2.1 65 q := by simp only [sA, if_true]
          rw [hs]
          generalize cl (fun q => if q = 192 * to + g then σ0.2.1 66 g else σ.2.1 65 q) (192 * to) 192 = a at hq ⊢
          have := hcl e
          split at hq <;> split at hq <;> omega) (fun y c => ra_ne (by omega) (hre y c)) rfl)
          · exact absurd h22 (by omega)
theorem dX12_comesLast_0 : decode cX12_comesLast 0 = .ok (.aload_n 0, 1) := by decide +kernel
theorem dX12_comesLast_1 : decode cX12_comesLast 1 = .ok (.getfield 91, 3) := by decide +kernel
theorem dX12_comesLast_4 : decode cX12_comesLast 4 = .ok (.iload_n 1, 1) := by decide +kernel
theorem dX12_comesLast_5 : decode cX12_comesLast 5 = .ok (.baload, 1) := by decide +kernel
theorem dX12_comesLast_6 : decode cX12_comesLast 6 = .ok (.ifCond .ne 7, 3) := by decide +kernel
theorem dX12_comesLast_13 : decode cX12_comesLast 13 = .ok (.iconst 0, 1) := by decide +kernel
theorem dX12_comesLast_14 : decode cX12_comesLast 14 = .ok (.istore_n 2, 1) := by decide +kernel
theorem dX12_comesLast_15 : decode cX12_comesLast 15 = .ok (.iconst 0, 1) := by decide +kernel
theorem dX12_comesLast_16 : decode cX12_comesLast 16 = .ok (.istore_n 3, 1) := by decide +kernel
theorem dX12_comesLast_105 : decode cX12_comesLast 105 = .ok (.aload_n 0, 1) := by decide +kernel
theorem dX12_comesLast_106 : decode cX12_comesLast 106 = .ok (.getfield 91, 3) := by decide +kernel
theorem dX12_comesLast_109 : decode cX12_comesLast 109 = .ok (.iload_n 1, 1) := by decide +kernel
theorem dX12_comesLast_110 : decode cX12_comesLast 110 = .ok (.iconst 1, 1) := by decide +kernel
theorem dX12_comesLast_111 : decode cX12_comesLast 111 = .ok (.bastore, 1) := by decide +kernel
theorem dX12_comesLast_112 : decode cX12_comesLast 112 = .ok (.iload_n 2, 1) := by decide +kernel
theorem dX12_comesLast_113 : decode cX12_comesLast 113 = .ok (.ireturn, 1) := by decide +kernel
theorem dX12_comesLast_9 : decode cX12_comesLast 9 = .ok (.iconst 1, 1) := by decide +kernel
theorem dX12_comesLast_10 : decode cX12_comesLast 10 = .ok (.goto 4, 3) := by decide +kernel
set_option maxHeartbeats 4000000 in
set_option maxRecDepth 20000 in
theorem c_X12_comesLast (d : Nat) {b : Nat} {σ : MS} {to : Int} (hR : RG σ) (hbo : BO 47 σ) (hto : 0 ≤ to ∧ to ≤ 220) : Tm (d + 1) m_X12_comesLast 0 b σ [(0, .ref b), (1, .int (iI to))] [] (fun ro σ2 => ∃ v : Int, ro = some (.int (iI v)) ∧ ((v = 0 ∨ v = 1)) ∧ (Fr [] [47, 65] [] σ σ2) ∧ (RG σ2) ∧ (BO 47 σ2) ∧ (193 * (cz (σ2.2.1 47) 221 : Int) + (cr (σ2.2.1 47) (σ2.2.1 65) 221 : Int) + v ≤ 193 * (cz (σ.2.1 47) 221 : Int) + (cr (σ.2.1 47) (σ.2.1 65) 221 : Int))) := by
  refine tm_aload_n dX12_comesLast_0 rfl 0 rfl ?_
  refine tm_get (k := 47) (v := .ref (b + 1 + 25)) lay_12 dX12_comesLast_1 (by decide) fl12_91 rfl ?_
  refine tm_iload_n dX12_comesLast_4 rfl 1 rfl ?_
  refine tm_zald (z := to) (v := σ.2.1 47 to) dX12_comesLast_5 (show mT[25]? = some (47, 2, 221) from rfl) (by omega) (by omega) (by decide) (rfl) ?_
  have g1 := RG.a hR 47 (to)
  have := hbo (to)
  refine tm_if_ne (tgt := 13) dX12_comesLast_6 (by decide) ⟨by omega, by omega⟩ (fun h2 => ?_) (fun h2 => ?_)
  · refine tm_iconst dX12_comesLast_13 ?_
    refine tm_istore_n (L' := [(2, .int (iI 0)), (0, .ref b), (1, .int (iI to))]) dX12_comesLast_14 rfl (by decide) rfl ?_
    refine tm_iconst dX12_comesLast_15 ?_
    refine tm_istore_n (L' := [(3, .int (iI 0)), (2, .int (iI 0)), (0, .ref b), (1, .int (iI to))]) dX12_comesLast_16 rfl (by decide) rfl ?_
    refine tm_sub [0, 1, 2, 3] rfl (l_comesLast (d) (σ0 := σ) (to := to) (C0 := (cl (σ.2.1 65) (192 * to) 192 : Int)) hR (by omega) hbo (fun w11 g12 σ13 F6 R7 f8 f9 f10 => ?_) _ (0) (0) σ Fr.rfl hR (by omega) (by omega) (fun y _ => rfl) rfl)
    show Tm _ _ 105 b σ13 [(3, .int (iI g12)), (2, .int (iI w11)), (0, .ref b), (1, .int (iI to))] [] _
    refine tm_aload_n dX12_comesLast_105 rfl 2 rfl ?_
    refine tm_get (k := 47) (v := .ref (b + 1 + 25)) lay_12 dX12_comesLast_106 (by decide) fl12_91 rfl ?_
    refine tm_iload_n dX12_comesLast_109 rfl 3 rfl ?_
    refine tm_iconst dX12_comesLast_110 ?_
    refine tm_zast (z := to) (v := 1) dX12_comesLast_111 (show mT[25]? = some (47, 2, 221) from rfl) (by omega) (by omega) (by decide) (by omega) ?_
    refine tm_iload_n dX12_comesLast_112 rfl 1 rfl ?_
    exact tm_zret (v := w11) rfl (by omega) dX12_comesLast_113 (⟨_, rfl, by omega, ((Fr.rfl.trans (Fr.sub F6 (by decide) (by decide) (by decide))).A (by decide)), (R7.A (by omega)), BO.A (hbo.fr F6 (by decide)) (by omega), by
      have e8 := cz_fr (n := 221) F6 (k := 47) (by decide)
      have e7 : σ13.2.1 47 to = σ.2.1 47 to := by rw [F6.2.1 47 (by decide)]
      have e6 : (sA 47 to 1 σ13).2.1 65 = σ13.2.1 65 := rfl
      have e5 : (sA 47 to 1 σ13).2.1 47 to = 1 := ra_eq
      have e4 := cr_one (p := σ.2.1 47) (q := (sA 47 to 1 σ13).2.1 47) (f := σ.2.1 65) (g := σ13.2.1 65) 221 hto.1 (by omega) (fun k hk => ra_ne hk (by rw [F6.2.1 47 (by decide)])) f10
      have e3 := cl_le (σ13.2.1 65) (192 * to) 192
      rw [e6]
      rw [if_pos e5] at e4
      have e2 := f9
      rcases hbo to with e | e
      · have := cz_sA (σ := σ13) (k := 47) (n := 221) (z := to) (v := 1) (by omega) (by omega) (by omega) (by decide)
        rw [if_neg (by omega)] at e4
        omega
      · have e9 : cz ((sA 47 to 1 σ13).2.1 47) 221 = cz (σ13.2.1 47) 221 := cz_ext _ (fun j a c => by
          by_cases q : j = to
          · subst q; rw [e7, e]; exact ra_eq
          · exact ra_ne q rfl)
        rw [if_pos e] at e4
        have := e2 e
        omega⟩)
  · refine tm_iconst dX12_comesLast_9 ?_
    refine tm_goto (tgt := 14) dX12_comesLast_10 (by decide) ?_
    refine tm_istore_n (L' := [(2, .int (iI 1)), (0, .ref b), (1, .int (iI to))]) dX12_comesLast_14 rfl (by decide) rfl ?_
    refine tm_iconst dX12_comesLast_15 ?_
    refine tm_istore_n (L' := [(3, .int (iI 0)), (2, .int (iI 1)), (0, .ref b), (1, .int (iI to))]) dX12_comesLast_16 rfl (by decide) rfl ?_
    refine tm_sub [0, 1, 2, 3] rfl (l_comesLast (d) (σ0 := σ) (to := to) (C0 := (cl (σ.2.1 65) (192 * to) 192 : Int)) hR (by omega) hbo (fun w22 g23 σ24 F17 R18 f19 f20 f21 => ?_) _ (1) (0) σ Fr.rfl hR (by omega) (by omega) (fun y _ => rfl) rfl)
    show Tm _ _ 105 b σ24 [(3, .int (iI g23)), (2, .int (iI w22)), (0, .ref b), (1, .int (iI to))] [] _
    refine tm_aload_n dX12_comesLast_105 rfl 2 rfl ?_
    refine tm_get (k := 47) (v := .ref (b + 1 + 25)) lay_12 dX12_comesLast_106 (by decide) fl12_91 rfl ?_
    refine tm_iload_n dX12_comesLast_109 rfl 3 rfl ?_
    refine tm_iconst dX12_comesLast_110 ?_
    refine tm_zast (z := to) (v := 1) dX12_comesLast_111 (show mT[25]? = some (47, 2, 221) from rfl) (by omega) (by omega) (by decide) (by omega) ?_
    refine tm_iload_n dX12_comesLast_112 rfl 1 rfl ?_
    exact tm_zret (v := w22) rfl (by omega) dX12_comesLast_113 (⟨_, rfl, by omega, ((Fr.rfl.trans (Fr.sub F17 (by decide) (by decide) (by decide))).A (by decide)), (R18.A (by omega)), BO.A (hbo.fr F17 (by decide)) (by omega), by
      have e8 := cz_fr (n := 221) F17 (k := 47) (by decide)
      have e7 : σ24.2.1 47 to = σ.2.1 47 to := by rw [F17.2.1 47 (by decide)]
      have e6 : (sA 47 to 1 σ24).2.1 65 = σ24.2.1 65 := rfl
      have e5 : (sA 47 to 1 σ24).2.1 47 to = 1 := ra_eq
      have e4 := cr_one (p := σ.2.1 47) (q := (sA 47 to 1 σ24).2.1 47) (f := σ.2.1 65) (g := σ24.2.1 65) 221 hto.1 (by omega) (fun k hk => ra_ne hk (by rw [F17.2.1 47 (by decide)])) f21
      have e3 := cl_le (σ24.2.1 65) (192 * to) 192
      rw [e6]
      rw [if_pos e5] at e4
      have e2 := f20
      rcases hbo to with e | e
      · have := cz_sA (σ := σ24) (k := 47) (n := 221) (z := to) (v := 1) (by omega) (by omega) (by omega) (by decide)
        rw [if_neg (by omega)] at e4
        omega
      · have e9 : cz ((sA 47 to 1 σ24).2.1 47) 221 = cz (σ24.2.1 47) 221 := cz_ext _ (fun j a c => by
          by_cases q : j = to
          · subst q; rw [e7, e]; exact ra_eq
          · exact ra_ne q rfl)
        rw [if_pos e] at e4
        have := e2 e
        omega⟩)
