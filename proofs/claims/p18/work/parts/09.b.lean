section
def cl (f : Int → Int) (lo : Int) : Nat → Nat
  | 0 => 0
  | n + 1 => cl f lo n + (if f (lo + n) = -1 then 0 else 1)
theorem cl_le (f : Int → Int) (lo : Int) (n : Nat) : cl f lo n ≤ n := by
  induction n with
  | zero => exact Nat.le_refl _
  | succ n ih => unfold cl; split <;> omega
theorem cl_ext {f g : Int → Int} {lo : Int} (n : Nat) (h : ∀ j : Int, 0 ≤ j → j < n → f (lo + j) = g (lo + j)) : cl f lo n = cl g lo n := by
  induction n with
  | zero => rfl
  | succ n ih =>
    unfold cl
    rw [ih (fun j a b => h j a (by omega)), h n (by omega) (by omega)]
theorem cl_upd {f : Int → Int} {lo z v : Int} {n : Nat} (h0 : lo ≤ z) (h1 : z < lo + n) : cl (fun q => if q = z then v else f q) lo n + (if f z = -1 then 0 else 1) = cl f lo n + (if v = -1 then 0 else 1) := by
  induction n with
  | zero => omega
  | succ n ih =>
    unfold cl
    by_cases e : z = lo + n
    · have h2 : cl (fun q => if q = z then v else f q) lo n = cl f lo n := cl_ext n (fun j a b => if_neg (by omega))
      rw [h2, if_pos e.symm, ← e]
      omega
    · have h2 := ih (by omega)
      have h3 : (if lo + (n : Int) = z then v else f (lo + n)) = f (lo + n) := if_neg (fun q => e q.symm)
      rw [h3]
      omega
def cr (p f : Int → Int) : Nat → Nat
  | 0 => 0
  | k + 1 => cr p f k + (if p k = 1 then cl f (192 * k) 192 else 0)
theorem cr_one {p q f g : Int → Int} {t : Int} (n : Nat) (h0 : 0 ≤ t) (h1 : t < n) (hp : ∀ k, k ≠ t → q k = p k) (hf : ∀ y, (y < 192 * t ∨ 192 * t + 192 ≤ y) → g y = f y) : cr q g n + (if p t = 1 then cl f (192 * t) 192 else 0) = cr p f n + (if q t = 1 then cl g (192 * t) 192 else 0) := by
  have same : ∀ k : Nat, (k : Int) ≠ t → (if q k = 1 then cl g (192 * k) 192 else 0) = (if p k = 1 then cl f (192 * k) 192 else 0) := fun k hk => by
    rw [hp k hk, cl_ext (f := g) (g := f) 192 (fun j a b => hf _ (by omega))]
  have low : ∀ m : Nat, (m : Int) ≤ t → cr q g m = cr p f m := fun m => by
    induction m with
    | zero => intro _; rfl
    | succ m ih => intro hm; unfold cr; rw [ih (by omega), same m (by omega)]
  induction n with
  | zero => omega
  | succ n ih =>
    unfold cr
    by_cases e : (n : Int) = t
    · rw [low n (by omega), e]
      omega
    · have := ih (by omega)
      rw [same n e]
      omega

theorem fl12_149 : Cond.fieldLink RX12 149 (TX12 66).1 (TX12 66).2.1 (TX12 66).2.2.1 ∈ pWW := pw7 (List.mem_of_getElem? (i := 73) rfl) rfl
theorem fl12_146 : Cond.fieldLink RX12 146 (TX12 65).1 (TX12 65).2.1 (TX12 65).2.2.1 ∈ pWW := pw7 (List.mem_of_getElem? (i := 72) rfl) rfl
theorem dX12_comesLast_17 : decode cX12_comesLast 17 = .ok (.iload_n 3, 1) := by decide +kernel
theorem dX12_comesLast_18 : decode cX12_comesLast 18 = .ok (.sipush 192, 3) := by decide +kernel
theorem dX12_comesLast_21 : decode cX12_comesLast 21 = .ok (.if_icmp .ge 84, 3) := by decide +kernel
theorem dX12_comesLast_24 : decode cX12_comesLast 24 = .ok (.sipush 192, 3) := by decide +kernel
theorem dX12_comesLast_27 : decode cX12_comesLast 27 = .ok (.iload_n 1, 1) := by decide +kernel
theorem dX12_comesLast_28 : decode cX12_comesLast 28 = .ok (.imul, 1) := by decide +kernel
theorem dX12_comesLast_29 : decode cX12_comesLast 29 = .ok (.iload_n 3, 1) := by decide +kernel
theorem dX12_comesLast_30 : decode cX12_comesLast 30 = .ok (.iadd, 1) := by decide +kernel
theorem dX12_comesLast_31 : decode cX12_comesLast 31 = .ok (.istore 4, 2) := by decide +kernel
theorem dX12_comesLast_33 : decode cX12_comesLast 33 = .ok (.aload_n 0, 1) := by decide +kernel
theorem dX12_comesLast_34 : decode cX12_comesLast 34 = .ok (.getfield 91, 3) := by decide +kernel
theorem dX12_comesLast_37 : decode cX12_comesLast 37 = .ok (.iload_n 1, 1) := by decide +kernel
theorem dX12_comesLast_38 : decode cX12_comesLast 38 = .ok (.baload, 1) := by decide +kernel
theorem dX12_comesLast_39 : decode cX12_comesLast 39 = .ok (.ifCond .eq 19, 3) := by decide +kernel
theorem dX12_comesLast_58 : decode cX12_comesLast 58 = .ok (.aload_n 0, 1) := by decide +kernel
theorem dX12_comesLast_59 : decode cX12_comesLast 59 = .ok (.getfield 149, 3) := by decide +kernel
theorem dX12_comesLast_62 : decode cX12_comesLast 62 = .ok (.iload_n 3, 1) := by decide +kernel
theorem dX12_comesLast_63 : decode cX12_comesLast 63 = .ok (.iaload, 1) := by decide +kernel
theorem dX12_comesLast_64 : decode cX12_comesLast 64 = .ok (.goto 4, 3) := by decide +kernel
theorem dX12_comesLast_68 : decode cX12_comesLast 68 = .ok (.istore 5, 2) := by decide +kernel
theorem dX12_comesLast_70 : decode cX12_comesLast 70 = .ok (.iload_n 2, 1) := by decide +kernel
theorem dX12_comesLast_71 : decode cX12_comesLast 71 = .ok (.aload_n 0, 1) := by decide +kernel
theorem dX12_comesLast_72 : decode cX12_comesLast 72 = .ok (.getfield 146, 3) := by decide +kernel
theorem dX12_comesLast_75 : decode cX12_comesLast 75 = .ok (.iload 4, 2) := by decide +kernel
theorem dX12_comesLast_77 : decode cX12_comesLast 77 = .ok (.iaload, 1) := by decide +kernel
theorem dX12_comesLast_78 : decode cX12_comesLast 78 = .ok (.iload 5, 2) := by decide +kernel
theorem dX12_comesLast_80 : decode cX12_comesLast 80 = .ok (.if_icmp .eq 7, 3) := by decide +kernel
theorem dX12_comesLast_87 : decode cX12_comesLast 87 = .ok (.iconst 0, 1) := by decide +kernel
theorem dX12_comesLast_88 : decode cX12_comesLast 88 = .ok (.ior, 1) := by decide +kernel
theorem dX12_comesLast_89 : decode cX12_comesLast 89 = .ok (.istore_n 2, 1) := by decide +kernel
theorem dX12_comesLast_90 : decode cX12_comesLast 90 = .ok (.aload_n 0, 1) := by decide +kernel
theorem dX12_comesLast_91 : decode cX12_comesLast 91 = .ok (.getfield 146, 3) := by decide +kernel
theorem dX12_comesLast_94 : decode cX12_comesLast 94 = .ok (.iload 4, 2) := by decide +kernel
theorem dX12_comesLast_96 : decode cX12_comesLast 96 = .ok (.iload 5, 2) := by decide +kernel
theorem dX12_comesLast_98 : decode cX12_comesLast 98 = .ok (.iastore, 1) := by decide +kernel
theorem dX12_comesLast_99 : decode cX12_comesLast 99 = .ok (.iinc 3 1, 3) := by decide +kernel
theorem dX12_comesLast_102 : decode cX12_comesLast 102 = .ok (.goto (-85), 3) := by decide +kernel
theorem dX12_comesLast_83 : decode cX12_comesLast 83 = .ok (.iconst 1, 1) := by decide +kernel
theorem dX12_comesLast_84 : decode cX12_comesLast 84 = .ok (.goto 4, 3) := by decide +kernel
theorem dX12_comesLast_42 : decode cX12_comesLast 42 = .ok (.aload_n 0, 1) := by decide +kernel
theorem dX12_comesLast_43 : decode cX12_comesLast 43 = .ok (.getfield 146, 3) := by decide +kernel
theorem dX12_comesLast_46 : decode cX12_comesLast 46 = .ok (.iload 4, 2) := by decide +kernel
theorem dX12_comesLast_48 : decode cX12_comesLast 48 = .ok (.iaload, 1) := by decide +kernel
theorem dX12_comesLast_49 : decode cX12_comesLast 49 = .ok (.aload_n 0, 1) := by decide +kernel
theorem dX12_comesLast_50 : decode cX12_comesLast 50 = .ok (.getfield 149, 3) := by decide +kernel
theorem dX12_comesLast_53 : decode cX12_comesLast 53 = .ok (.iload_n 3, 1) := by decide +kernel
theorem dX12_comesLast_54 : decode cX12_comesLast 54 = .ok (.iaload, 1) := by decide +kernel
theorem dX12_comesLast_55 : decode cX12_comesLast 55 = .ok (.if_icmp .ne 12, 3) := by decide +kernel
theorem dX12_comesLast_67 : decode cX12_comesLast 67 = .ok (.iconst (-1), 1) := by decide +kernel
set_option maxHeartbeats 4000000 in
set_option maxRecDepth 20000 in
theorem l_comesLast (d : Nat) {b : Nat} {σ0 : MS} {to : Int} {C0 : Int} {post : Option Value → MS → Prop} (hR0 : RG σ0) (hto : 0 ≤ to ∧ to ≤ 220) (hbo : BO 47 σ0) (hx_105 : ∀ (w : Int) (g : Int) (σ : MS) , (Fr [] [65] [] σ0 σ) → (RG σ) → ((w = 0 ∨ w = 1) ∧ (σ0.2.1 47 to = 0 → w = 1)) → (σ0.2.1 47 to = 1 → (cl (σ.2.1 65) (192 * to) 192 : Int) + w ≤ C0) → (∀ y, (y < 192 * to ∨ 192 * to + 192 ≤ y) → σ.2.1 65 y = σ0.2.1 65 y) → Tm (d + 1) m_X12_comesLast 105 b σ [(3, .int (iI g)), (2, .int (iI w)), (0, .ref b), (1, .int (iI to))] [] post) : ∀ (n : Nat) (w : Int) (g : Int) (σ : MS) , (Fr [] [65] [] σ0 σ) → (RG σ) → (0 ≤ g ∧ g ≤ 192 ∧ (w = 0 ∨ w = 1) ∧ (σ0.2.1 47 to = 0 → w = 1)) → (σ0.2.1 47 to = 1 → (cl (σ.2.1 65) (192 * to) 192 : Int) + w ≤ C0) → (∀ y, (y < 192 * to ∨ 192 * to + 192 ≤ y) → σ.2.1 65 y = σ0.2.1 65 y) → (192 - g).toNat = n → Tm (d + 1) m_X12_comesLast 17 b σ [(3, .int (iI g)), (2, .int (iI w)), (0, .ref b), (1, .int (iI to))] [] post := by
  intro n
  induction n using Nat.strongRecOn with
  | _ n ih =>
    intro w g σ hF hR h0 hcl hre hm
    refine tm_iload_n dX12_comesLast_17 rfl 0 rfl ?_
    refine tm_sipush dX12_comesLast_18 (by decide) ?_
    refine tm_icmp_ge (tgt := 105) dX12_comesLast_21 (by decide) ⟨by omega, by omega⟩ ⟨by decide, by decide⟩ (fun h1 => ?_) (fun h1 => ?_)
    · exact tm_sub [0, 1, 2, 3] rfl (hx_105 (w) (g) σ (Fr.rfl.trans (Fr.sub hF (by decide) (by decide) (by decide))) hR (by omega) hcl hre)
    · refine tm_sipush dX12_comesLast_24 (by decide) ?_
      refine tm_iload_n dX12_comesLast_27 rfl 3 rfl ?_
      refine tm_imul dX12_comesLast_28 ?_
      refine tm_iload_n dX12_comesLast_29 rfl 0 rfl ?_
      refine tm_iadd dX12_comesLast_30 ?_
      refine tm_istore (L' := [(4, .int (iI ((192 * to) + g))), (3, .int (iI g)), (2, .int (iI w)), (0, .ref b), (1, .int (iI to))]) dX12_comesLast_31 (by decide) rfl ?_
      refine tm_aload_n dX12_comesLast_33 rfl 3 rfl ?_
      refine tm_get (k := 47) (v := .ref (b + 1 + 25)) lay_12 dX12_comesLast_34 (by decide) fl12_91 rfl ?_
      refine tm_iload_n dX12_comesLast_37 rfl 4 rfl ?_
      refine tm_zald (z := to) (v := σ0.2.1 47 to) dX12_comesLast_38 (show mT[25]? = some (47, 2, 221) from rfl) (by omega) (by omega) (by decide) (ra_F hF (by decide) (rfl)) ?_
      have g2 := RG.a hR0 47 (to)
      have := hbo (to)
      refine tm_if_eq (tgt := 58) dX12_comesLast_39 (by decide) ⟨by omega, by omega⟩ (fun h3 => ?_) (fun h3 => ?_)
      · refine tm_aload_n dX12_comesLast_58 rfl 3 rfl ?_
        refine tm_get (k := 66) (v := .ref (b + 1 + 43)) lay_12 dX12_comesLast_59 (by decide) fl12_149 rfl ?_
        refine tm_iload_n dX12_comesLast_62 rfl 1 rfl ?_
        refine tm_iald (z := g) (v := σ0.2.1 66 g) dX12_comesLast_63 (show mT[43]? = some (66, 0, 192) from rfl) (by omega) (by omega) (by decide) (ra_F hF (by decide) (rfl)) ?_
        have g4 := RG.a hR0 66 (g)
        refine tm_goto (tgt := 68) dX12_comesLast_64 (by decide) ?_
        refine tm_istore (L' := [(5, .int (iI (σ0.2.1 66 g))), (4, .int (iI ((192 * to) + g))), (3, .int (iI g)), (2, .int (iI w)), (0, .ref b), (1, .int (iI to))]) dX12_comesLast_68 (by decide) rfl ?_
        refine tm_iload_n dX12_comesLast_70 rfl 3 rfl ?_
        refine tm_aload_n dX12_comesLast_71 rfl 4 rfl ?_
        refine tm_get (k := 65) (v := .ref (b + 1 + 42)) lay_12 dX12_comesLast_72 (by decide) fl12_146 rfl ?_
        refine tm_iload dX12_comesLast_75 1 rfl ?_
        refine tm_iald (z := (192 * to) + g) (v := σ.2.1 65 ((192 * to) + g)) dX12_comesLast_77 (show mT[42]? = some (65, 0, 42432) from rfl) (by omega) (by omega) (by decide) (rfl) ?_
        have g5 := RG.a hR 65 ((192 * to) + g)
        refine tm_iload dX12_comesLast_78 0 rfl ?_
        refine tm_icmp_eq (tgt := 87) dX12_comesLast_80 (by decide) ⟨by omega, by omega⟩ ⟨by omega, by omega⟩ (fun h6 => ?_) (fun h6 => ?_)
        · refine tm_iconst dX12_comesLast_87 ?_
          refine tm_iorZ (x := w) (y := 0) dX12_comesLast_88 (by omega) (by omega) (fun c7 g8 => ?_)
          refine tm_istore_n (L' := [(2, .int (iI c7)), (5, .int (iI (σ0.2.1 66 g))), (4, .int (iI ((192 * to) + g))), (3, .int (iI g)), (0, .ref b), (1, .int (iI to))]) dX12_comesLast_89 rfl (by decide) rfl ?_
          refine tm_aload_n dX12_comesLast_90 rfl 4 rfl ?_
          refine tm_get (k := 65) (v := .ref (b + 1 + 42)) lay_12 dX12_comesLast_91 (by decide) fl12_146 rfl ?_
          refine tm_iload dX12_comesLast_94 2 rfl ?_
          refine tm_iload dX12_comesLast_96 1 rfl ?_
          refine tm_iast (z := (192 * to) + g) (v := σ0.2.1 66 g) dX12_comesLast_98 (show mT[42]? = some (65, 0, 42432) from rfl) (by omega) (by omega) (by decide) ?_
          refine tm_iinc (q0 := 3) (L' := [(3, .int (iI (g + 1))), (2, .int (iI c7)), (5, .int (iI (σ0.2.1 66 g))), (4, .int (iI ((192 * to) + g))), (0, .ref b), (1, .int (iI to))]) dX12_comesLast_99 rfl (by decide) rfl ?_
          refine tm_goto (tgt := 17) dX12_comesLast_102 (by decide) ?_
          exact tm_sub [0, 1, 4, 5] rfl (ih _ (by omega) (c7) (g + 1) (sA 65 ((192 * to) + g) (σ0.2.1 66 g) σ) ((Fr.rfl.trans (Fr.sub hF (by decide) (by decide) (by decide))).A (by decide)) (hR.A (by omega)) (by omega) (fun e => by
          have hq := cl_upd (f := σ.2.1 65) (lo := 192 * to) (z := 192 * to + g) (v := σ0.2.1 66 g) (n := 192) (by omega) (by omega)
          have hs : (sA 65 ((192 * to) + g) (σ0.2.1 66 g) σ).2.1 65 = fun q => if q = 192 * to + g then σ0.2.1 66 g else σ.2.1 65 q := by simp only [sA, if_true]
          rw [hs]
          generalize cl (fun q => if q = 192 * to + g then σ0.2.1 66 g else σ.2.1 65 q) (192 * to) 192 = a at hq ⊢
          have := hcl e
          split at hq <;> split at hq <;> omega) (fun y c => ra_ne (by omega) (hre y c)) rfl)
        · refine tm_iconst dX12_comesLast_83 ?_
          refine tm_goto (tgt := 88) dX12_comesLast_84 (by decide) ?_
          refine tm_iorZ (x := w) (y := 1) dX12_comesLast_88 (by omega) (by omega) (fun c9 g10 => ?_)
          refine tm_istore_n (L' := [(2, .int (iI c9)), (5, .int (iI (σ0.2.1 66 g))), (4, .int (iI ((192 * to) + g))), (3, .int (iI g)), (0, .ref b), (1, .int (iI to))]) dX12_comesLast_89 rfl (by decide) rfl ?_
          refine tm_aload_n dX12_comesLast_90 rfl 4 rfl ?_
          refine tm_get (k := 65) (v := .ref (b + 1 + 42)) lay_12 dX12_comesLast_91 (by decide) fl12_146 rfl ?_
          refine tm_iload dX12_comesLast_94 2 rfl ?_
          refine tm_iload dX12_comesLast_96 1 rfl ?_
          refine tm_iast (z := (192 * to) + g) (v := σ0.2.1 66 g) dX12_comesLast_98 (show mT[42]? = some (65, 0, 42432) from rfl) (by omega) (by omega) (by decide) ?_
          refine tm_iinc (q0 := 3) (L' := [(3, .int (iI (g + 1))), (2, .int (iI c9)), (5, .int (iI (σ0.2.1 66 g))), (4, .int (iI ((192 * to) + g))), (0, .ref b), (1, .int (iI to))]) dX12_comesLast_99 rfl (by decide) rfl ?_
          refine tm_goto (tgt := 17) dX12_comesLast_102 (by decide) ?_
          exact tm_sub [0, 1, 4, 5] rfl (ih _ (by omega) (c9) (g + 1) (sA 65 ((192 * to) + g) (σ0.2.1 66 g) σ) ((Fr.rfl.trans (Fr.sub hF (by decide) (by decide) (by decide))).A (by decide)) (hR.A (by omega)) (by omega) (fun e => by
          have hq := cl_upd (f := σ.2.1 65) (lo := 192 * to) (z := 192 * to + g) (v := σ0.2.1 66 g) (n := 192) (by omega) (by omega)
          have hs : (sA 65 ((192 * to) + g) (σ0.2.1 66 g) σ).2.1 65 = fun q => if q = 192 * to + g then σ0.2.1 66 g else σ.2.1 65 q := by simp only [sA, if_true]
          rw [hs]
          generalize cl (fun q => if q = 192 * to + g then σ0.2.1 66 g else σ.2.1 65 q) (192 * to) 192 = a at hq ⊢
          have := hcl e
          split at hq <;> split at hq <;> omega) (fun y c => ra_ne (by omega) (hre y c)) rfl)
      · refine tm_aload_n dX12_comesLast_42 rfl 3 rfl ?_
        refine tm_get (k := 65) (v := .ref (b + 1 + 42)) lay_12 dX12_comesLast_43 (by decide) fl12_146 rfl ?_
        refine tm_iload dX12_comesLast_46 0 rfl ?_
        refine tm_iald (z := (192 * to) + g) (v := σ.2.1 65 ((192 * to) + g)) dX12_comesLast_48 (show mT[42]? = some (65, 0, 42432) from rfl) (by omega) (by omega) (by decide) (rfl) ?_
        have g11 := RG.a hR 65 ((192 * to) + g)
        refine tm_aload_n dX12_comesLast_49 rfl 3 rfl ?_
        refine tm_get (k := 66) (v := .ref (b + 1 + 43)) lay_12 dX12_comesLast_50 (by decide) fl12_149 rfl ?_
        refine tm_iload_n dX12_comesLast_53 rfl 1 rfl ?_
        refine tm_iald (z := g) (v := σ0.2.1 66 g) dX12_comesLast_54 (show mT[43]? = some (66, 0, 192) from rfl) (by omega) (by omega) (by decide) (ra_F hF (by decide) (rfl)) ?_
        have g12 := RG.a hR0 66 (g)
        refine tm_icmp_ne (tgt := 67) dX12_comesLast_55 (by decide) ⟨by omega, by omega⟩ ⟨by omega, by omega⟩ (fun h13 => ?_) (fun h13 => ?_)
        · refine tm_iconst dX12_comesLast_67 ?_
          refine tm_istore (L' := [(5, .int (iI (-1))), (4, .int (iI ((192 * to) + g))), (3, .int (iI g)), (2, .int (iI w)), (0, .ref b), (1, .int (iI to))]) dX12_comesLast_68 (by decide) rfl ?_
          refine tm_iload_n dX12_comesLast_70 rfl 3 rfl ?_
          refine tm_aload_n dX12_comesLast_71 rfl 4 rfl ?_
          refine tm_get (k := 65) (v := .ref (b + 1 + 42)) lay_12 dX12_comesLast_72 (by decide) fl12_146 rfl ?_
          refine tm_iload dX12_comesLast_75 1 rfl ?_
          refine tm_iald (z := (192 * to) + g) (v := σ.2.1 65 ((192 * to) + g)) dX12_comesLast_77 (show mT[42]? = some (65, 0, 42432) from rfl) (by omega) (by omega) (by decide) (rfl) ?_
          have g14 := RG.a hR 65 ((192 * to) + g)
          refine tm_iload dX12_comesLast_78 0 rfl ?_
          refine tm_icmp_eq (tgt := 87) dX12_comesLast_80 (by decide) ⟨by omega, by omega⟩ ⟨by decide, by decide⟩ (fun h15 => ?_) (fun h15 => ?_)
          · refine tm_iconst dX12_comesLast_87 ?_
            refine tm_iorZ (x := w) (y := 0) dX12_comesLast_88 (by omega) (by omega) (fun c16 g17 => ?_)
            refine tm_istore_n (L' := [(2, .int (iI c16)), (5, .int (iI (-1))), (4, .int (iI ((192 * to) + g))), (3, .int (iI g)), (0, .ref b), (1, .int (iI to))]) dX12_comesLast_89 rfl (by decide) rfl ?_
            refine tm_aload_n dX12_comesLast_90 rfl 4 rfl ?_
            refine tm_get (k := 65) (v := .ref (b + 1 + 42)) lay_12 dX12_comesLast_91 (by decide) fl12_146 rfl ?_
            refine tm_iload dX12_comesLast_94 2 rfl ?_
            refine tm_iload dX12_comesLast_96 1 rfl ?_
            refine tm_iast (z := (192 * to) + g) (v := -1) dX12_comesLast_98 (show mT[42]? = some (65, 0, 42432) from rfl) (by omega) (by omega) (by decide) ?_
            refine tm_iinc (q0 := 3) (L' := [(3, .int (iI (g + 1))), (2, .int (iI c16)), (5, .int (iI (-1))), (4, .int (iI ((192 * to) + g))), (0, .ref b), (1, .int (iI to))]) dX12_comesLast_99 rfl (by decide) rfl ?_
            refine tm_goto (tgt := 17) dX12_comesLast_102 (by decide) ?_
            exact tm_sub [0, 1, 4, 5] rfl (ih _ (by omega) (c16) (g + 1) (sA 65 ((192 * to) + g) (-1) σ) ((Fr.rfl.trans (Fr.sub hF (by decide) (by decide) (by decide))).A (by decide)) (hR.A (by omega)) (by omega) (fun e => by
          have hq := cl_upd (f := σ.2.1 65) (lo := 192 * to) (z := 192 * to + g) (v := -1) (n := 192) (by omega) (by omega)
          have hs : (sA 65 ((192 * to) + g) (-1) σ).2.1 65 = fun q => if q = 192 * to + g then -1 else σ.2.1 65 q := by simp only [sA, if_true]
          rw [hs]
          generalize cl (fun q => if q = 192 * to + g then -1 else σ.2.1 65 q) (192 * to) 192 = a at hq ⊢
          have := hcl e
          split at hq <;> split at hq <;> omega) (fun y c => ra_ne (by omega) (hre y c)) rfl)
          · refine tm_iconst dX12_comesLast_83 ?_
            refine tm_goto (tgt := 88) dX12_comesLast_84 (by decide) ?_
            refine tm_iorZ (x := w) (y := 1) dX12_comesLast_88 (by omega) (by omega) (fun c18 g19 => ?_)
            refine tm_istore_n (L' := [(2, .int (iI c18)), (5, .int (iI (-1))), (4, .int (iI ((192 * to) + g))), (3, .int (iI g)), (0, .ref b), (1, .int (iI to))]) dX12_comesLast_89 rfl (by decide) rfl ?_
            refine tm_aload_n dX12_comesLast_90 rfl 4 rfl ?_
            refine tm_get (k := 65) (v := .ref (b + 1 + 42)) lay_12 dX12_comesLast_91 (by decide) fl12_146 rfl ?_
            refine tm_iload dX12_comesLast_94 2 rfl ?_
            refine tm_iload dX12_comesLast_96 1 rfl ?_
            refine tm_iast (z := (192 * to) + g) (v := -1) dX12_comesLast_98 (show mT[42]? = some (65, 0, 42432) from rfl) (by omega) (by omega) (by decide) ?_
            refine tm_iinc (q0 := 3) (L' := [(3, .int (iI (g + 1))), (2, .int (iI c18)), (5, .int (iI (-1))), (4, .int (iI ((192 * to) + g))), (0, .ref b), (1, .int (iI to))]) dX12_comesLast_99 rfl (by decide) rfl ?_
            refine tm_goto (tgt := 17) dX12_comesLast_102 (by decide) ?_
            exact tm_sub [0, 1, 4, 5] rfl (ih _ (by omega) (c18) (g + 1) (sA 65 ((192 * to) + g) (-1) σ) ((Fr.rfl.trans (Fr.sub hF (by decide) (by decide) (by decide))).A (by decide)) (hR.A (by omega)) (by omega) (fun e => by
          have hq := cl_upd (f := σ.2.1 65) (lo := 192 * to) (z := 192 * to + g) (v := -1) (n := 192) (by omega) (by omega)
          have hs : (sA 65 ((192 * to) + g) (-1) σ).2.1 65 = fun q => if q = 192 * to + g then -1 else σ.2.1 65 q := by simp only [sA, if_true]
          rw [hs]
          generalize cl (fun q => if q = 192 * to + g then -1 else σ.2.1 65 q) (192 * to) 192 = a at hq ⊢
          have := hcl e
          split at hq <;> split at hq <;> omega) (fun y c => ra_ne (by omega) (hre y c)) rfl)
        · refine tm_aload_n dX12_comesLast_58 rfl 3 rfl ?_
          refine tm_get (k := 66) (v := .ref (b + 1 + 43)) lay_12 dX12_comesLast_59 (by decide) fl12_149 rfl ?_
          refine tm_iload_n dX12_comesLast_62 rfl 1 rfl ?_
          refine tm_iald (z := g) (v := σ0.2.1 66 g) dX12_comesLast_63 (show mT[43]? = some (66, 0, 192) from rfl) (by omega) (by omega) (by decide) (ra_F hF (by decide) (rfl)) ?_
          have g20 := RG.a hR0 66 (g)
          refine tm_goto (tgt := 68) dX12_comesLast_64 (by decide) ?_
          refine tm_istore (L' := [(5, .int (iI (σ0.2.1 66 g))), (4, .int (iI ((192 * to) + g))), (3, .int (iI g)), (2, .int (iI w)), (0, .ref b), (1, .int (iI to))]) dX12_comesLast_68 (by decide) rfl ?_
          refine tm_iload_n dX12_comesLast_70 rfl 3 rfl ?_
          refine tm_aload_n dX12_comesLast_71 rfl 4 rfl ?_
          refine tm_get (k := 65) (v := .ref (b + 1 + 42)) lay_12 dX12_comesLast_72 (by decide) fl12_146 rfl ?_
          refine tm_iload dX12_comesLast_75 1 rfl ?_
          refine tm_iald (z := (192 * to) + g) (v := σ.2.1 65 ((192 * to) + g)) dX12_comesLast_77 (show mT[42]? = some (65, 0, 42432) from rfl) (by omega) (by omega) (by decide) (rfl) ?_
          have g21 := RG.a hR 65 ((192 * to) + g)
          refine tm_iload dX12_comesLast_78 0 rfl ?_
          refine tm_icmp_eq (tgt := 87) dX12_comesLast_80 (by decide) ⟨by omega, by omega⟩ ⟨by omega, by omega⟩ (fun h22 => ?_) (fun h22 => ?_)
          · refine tm_iconst dX12_comesLast_87 ?_
            refine tm_iorZ (x := w) (y := 0) dX12_comesLast_88 (by omega) (by omega) (fun c23 g24 => ?_)
            refine tm_istore_n (L' := [(2, .int (iI c23)), (5, .int (iI (σ0.2.1 66 g))), (4, .int (iI ((192 * to) + g))), (3, .int (iI g)), (0, .ref b), (1, .int (iI to))]) dX12_comesLast_89 rfl (by decide) rfl ?_
            refine tm_aload_n dX12_comesLast_90 rfl 4 rfl ?_
            refine tm_get (k := 65) (v := .ref (b + 1 + 42)) lay_12 dX12_comesLast_91 (by decide) fl12_146 rfl ?_
            refine tm_iload dX12_comesLast_94 2 rfl ?_
            refine tm_iload dX12_comesLast_96 1 rfl ?_
            refine tm_iast (z := (192 * to) + g) (v := σ0.2.1 66 g) dX12_comesLast_98 (show mT[42]? = some (65, 0, 42432) from rfl) (by omega) (by omega) (by decide) ?_
            refine tm_iinc (q0 := 3) (L' := [(3, .int (iI (g + 1))), (2, .int (iI c23)), (5, .int (iI (σ0.2.1 66 g))), (4, .int (iI ((192 * to) + g))), (0, .ref b), (1, .int (iI to))]) dX12_comesLast_99 rfl (by decide) rfl ?_
            refine tm_goto (tgt := 17) dX12_comesLast_102 (by decide) ?_
            exact tm_sub [0, 1, 4, 5] rfl (ih _ (by omega) (c23) (g + 1) (sA 65 ((192 * to) + g) (σ0.2.1 66 g) σ) ((Fr.rfl.trans (Fr.sub hF (by decide) (by decide) (by decide))).A (by decide)) (hR.A (by omega)) (by omega) (fun e => by
          have hq := cl_upd (f := σ.2.1 65) (lo := 192 * to) (z := 192 * to + g) (v := σ0.2.1 66 g) (n := 192) (by omega) (by omega)
          have hs : (sA 65 ((192 * to) + g) (σ0.2.1 66 g) σ).2.1 65 = fun q => if q = 192 * to + g then σ0.2.1 66 g else σ.2.1 65 q := by simp only [sA, if_true]
          rw [hs]
          generalize cl (fun q => if q = 192 * to + g then σ0.2.1 66 g else σ.2.1 65 q) (192 * to) 192 = a at hq ⊢
          have := hcl e
          split at hq <;> split at hq <;> omega) (fun y c => ra_ne (by omega) (hre y c)) rfl)
          · exact absurd h22 (by omega)
theorem dX12_comesLast_0 : decode cX12_comesLast 0 = .ok (.aload_n 0, 1) := by decide +kernel
theorem dX12_comesLast_1 : decode cX12_comesLast 1 = .ok (.getfield 91, 3) := by decide +kernel
theorem dX12_comesLast_4 : decode cX12_comesLast 4 = .ok (.iload_n 1, 1) := by decide +kernel
theorem dX12_comesLast_5 : decode cX12_comesLast 5 = .ok (.baload, 1) := by decide +kernel
theorem dX12_comesLast_6 : decode cX12_comesLast 6 = .ok (.ifCond .ne 7, 3) := by decide +kernel
theorem dX12_comesLast_13 : decode cX12_comesLast 13 = .ok (.iconst 0, 1) := by decide +kernel
theorem dX12_comesLast_14 : decode cX12_comesLast 14 = .ok (.istore_n 2, 1) := by decide +kernel
theorem dX12_comesLast_15 : decode cX12_comesLast 15 = .ok (.iconst 0, 1) := by decide +kernel
theorem dX12_comesLast_16 : decode cX12_comesLast 16 = .ok (.istore_n 3, 1) := by decide +kernel
theorem dX12_comesLast_105 : decode cX12_comesLast 105 = .ok (.aload_n 0, 1) := by decide +kernel
theorem dX12_comesLast_106 : decode cX12_comesLast 106 = .ok (.getfield 91, 3) := by decide +kernel
theorem dX12_comesLast_109 : decode cX12_comesLast 109 = .ok (.iload_n 1, 1) := by decide +kernel
theorem dX12_comesLast_110 : decode cX12_comesLast 110 = .ok (.iconst 1, 1) := by decide +kernel
theorem dX12_comesLast_111 : decode cX12_comesLast 111 = .ok (.bastore, 1) := by decide +kernel
theorem dX12_comesLast_112 : decode cX12_comesLast 112 = .ok (.iload_n 2, 1) := by decide +kernel
theorem dX12_comesLast_113 : decode cX12_comesLast 113 = .ok (.ireturn, 1) := by decide +kernel
theorem dX12_comesLast_9 : decode cX12_comesLast 9 = .ok (.iconst 1, 1) := by decide +kernel
theorem dX12_comesLast_10 : decode cX12_comesLast 10 = .ok (.goto 4, 3) := by decide +kernel
set_option maxHeartbeats 4000000 in
set_option maxRecDepth 20000 in
theorem c_X12_comesLast (d : Nat) {b : Nat} {σ : MS} {to : Int} (hR : RG σ) (hbo : BO 47 σ) (hto : 0 ≤ to ∧ to ≤ 220) : Tm (d + 1) m_X12_comesLast 0 b σ [(0, .ref b), (1, .int (iI to))] [] (fun ro σ2 => ∃ v : Int, ro = some (.int (iI v)) ∧ ((v = 0 ∨ v = 1)) ∧ (Fr [] [47, 65] [] σ σ2) ∧ (RG σ2) ∧ (BO 47 σ2) ∧ (193 * (cz (σ2.2.1 47) 221 : Int) + (cr (σ2.2.1 47) (σ2.2.1 65) 221 : Int) + v ≤ 193 * (cz (σ.2.1 47) 221 : Int) + (cr (σ.2.1 47) (σ.2.1 65) 221 : Int))) := by
  refine tm_aload_n dX12_comesLast_0 rfl 0 rfl ?_
  refine tm_get (k := 47) (v := .ref (b + 1 + 25)) lay_12 dX12_comesLast_1 (by decide) fl12_91 rfl ?_
  refine tm_iload_n dX12_comesLast_4 rfl 1 rfl ?_
  refine tm_zald (z := to) (v := σ.2.1 47 to) dX12_comesLast_5 (show mT[25]? = some (47, 2, 221) from rfl) (by omega) (by omega) (by decide) (rfl) ?_
  have g1 := RG.a hR 47 (to)
  have := hbo (to)
  refine tm_if_ne (tgt := 13) dX12_comesLast_6 (by decide) ⟨by omega, by omega⟩ (fun h2 => ?_) (fun h2 => ?_)
  · refine tm_iconst dX12_comesLast_13 ?_
    refine tm_istore_n (L' := [(2, .int (iI 0)), (0, .ref b), (1, .int (iI to))]) dX12_comesLast_14 rfl (by decide) rfl ?_
    refine tm_iconst dX12_comesLast_15 ?_
    refine tm_istore_n (L' := [(3, .int (iI 0)), (2, .int (iI 0)), (0, .ref b), (1, .int (iI to))]) dX12_comesLast_16 rfl (by decide) rfl ?_
    refine tm_sub [0, 1, 2, 3] rfl (l_comesLast (d) (σ0 := σ) (to := to) (C0 := (cl (σ.2.1 65) (192 * to) 192 : Int)) hR (by omega) hbo (fun w11 g12 σ13 F6 R7 f8 f9 f10 => ?_) _ (0) (0) σ Fr.rfl hR (by omega) (by omega) (fun y _ => rfl) rfl)
    show Tm _ _ 105 b σ13 [(3, .int (iI g12)), (2, .int (iI w11)), (0, .ref b), (1, .int (iI to))] [] _
    refine tm_aload_n dX12_comesLast_105 rfl 2 rfl ?_
    refine tm_get (k := 47) (v := .ref (b + 1 + 25)) lay_12 dX12_comesLast_106 (by decide) fl12_91 rfl ?_
    refine tm_iload_n dX12_comesLast_109 rfl 3 rfl ?_
    refine tm_iconst dX12_comesLast_110 ?_
    refine tm_zast (z := to) (v := 1) dX12_comesLast_111 (show mT[25]? = some (47, 2, 221) from rfl) (by omega) (by omega) (by decide) (by omega) ?_
    refine tm_iload_n dX12_comesLast_112 rfl 1 rfl ?_
    exact tm_zret (v := w11) rfl (by omega) dX12_comesLast_113 (⟨_, rfl, by omega, ((Fr.rfl.trans (Fr.sub F6 (by decide) (by decide) (by decide))).A (by decide)), (R7.A (by omega)), BO.A (hbo.fr F6 (by decide)) (by omega), by
      have e8 := cz_fr (n := 221) F6 (k := 47) (by decide)
      have e7 : σ13.2.1 47 to = σ.2.1 47 to := by rw [F6.2.1 47 (by decide)]
      have e6 : (sA 47 to 1 σ13).2.1 65 = σ13.2.1 65 := rfl
      have e5 : (sA 47 to 1 σ13).2.1 47 to = 1 := ra_eq
      have e4 := cr_one (p := σ.2.1 47) (q := (sA 47 to 1 σ13).2.1 47) (f := σ.2.1 65) (g := σ13.2.1 65) 221 hto.1 (by omega) (fun k hk => ra_ne hk (by rw [F6.2.1 47 (by decide)])) f10
      have e3 := cl_le (σ13.2.1 65) (192 * to) 192
      rw [e6]
      rw [if_pos e5] at e4
      have e2 := f9
      rcases hbo to with e | e
      · have := cz_sA (σ := σ13) (k := 47) (n := 221) (z := to) (v := 1) (by omega) (by omega) (by omega) (by decide)
        rw [if_neg (by omega)] at e4
        omega
      · have e9 : cz ((sA 47 to 1 σ13).2.1 47) 221 = cz (σ13.2.1 47) 221 := cz_ext _ (fun j a c => by
          by_cases q : j = to
          · subst q; rw [e7, e]; exact ra_eq
          · exact ra_ne q rfl)
        rw [if_pos e] at e4
        have := e2 e
        omega⟩)
  · refine tm_iconst dX12_comesLast_9 ?_
    refine tm_goto (tgt := 14) dX12_comesLast_10 (by decide) ?_
    refine tm_istore_n (L' := [(2, .int (iI 1)), (0, .ref b), (1, .int (iI to))]) dX12_comesLast_14 rfl (by decide) rfl ?_
    refine tm_iconst dX12_comesLast_15 ?_
    refine tm_istore_n (L' := [(3, .int (iI 0)), (2, .int (iI 1)), (0, .ref b), (1, .int (iI to))]) dX12_comesLast_16 rfl (by decide) rfl ?_
    refine tm_sub [0, 1, 2, 3] rfl (l_comesLast (d) (σ0 := σ) (to := to) (C0 := (cl (σ.2.1 65) (192 * to) 192 : Int)) hR (by omega) hbo (fun w22 g23 σ24 F17 R18 f19 f20 f21 => ?_) _ (1) (0) σ Fr.rfl hR (by omega) (by omega) (fun y _ => rfl) rfl)
    show Tm _ _ 105 b σ24 [(3, .int (iI g23)), (2, .int (iI w22)), (0, .ref b), (1, .int (iI to))] [] _
    refine tm_aload_n dX12_comesLast_105 rfl 2 rfl ?_
    refine tm_get (k := 47) (v := .ref (b + 1 + 25)) lay_12 dX12_comesLast_106 (by decide) fl12_91 rfl ?_
    refine tm_iload_n dX12_comesLast_109 rfl 3 rfl ?_
    refine tm_iconst dX12_comesLast_110 ?_
    refine tm_zast (z := to) (v := 1) dX12_comesLast_111 (show mT[25]? = some (47, 2, 221) from rfl) (by omega) (by omega) (by decide) (by omega) ?_
    refine tm_iload_n dX12_comesLast_112 rfl 1 rfl ?_
    exact tm_zret (v := w22) rfl (by omega) dX12_comesLast_113 (⟨_, rfl, by omega, ((Fr.rfl.trans (Fr.sub F17 (by decide) (by decide) (by decide))).A (by decide)), (R18.A (by omega)), BO.A (hbo.fr F17 (by decide)) (by omega), by
      have e8 := cz_fr (n := 221) F17 (k := 47) (by decide)
      have e7 : σ24.2.1 47 to = σ.2.1 47 to := by rw [F17.2.1 47 (by decide)]
      have e6 : (sA 47 to 1 σ24).2.1 65 = σ24.2.1 65 := rfl
      have e5 : (sA 47 to 1 σ24).2.1 47 to = 1 := ra_eq
      have e4 := cr_one (p := σ.2.1 47) (q := (sA 47 to 1 σ24).2.1 47) (f := σ.2.1 65) (g := σ24.2.1 65) 221 hto.1 (by omega) (fun k hk => ra_ne hk (by rw [F17.2.1 47 (by decide)])) f21
      have e3 := cl_le (σ24.2.1 65) (192 * to) 192
      rw [e6]
      rw [if_pos e5] at e4
      have e2 := f20
      rcases hbo to with e | e
      · have := cz_sA (σ := σ24) (k := 47) (n := 221) (z := to) (v := 1) (by omega) (by omega) (by omega) (by decide)
        rw [if_neg (by omega)] at e4
        omega
      · have e9 : cz ((sA 47 to 1 σ24).2.1 47) 221 = cz (σ24.2.1 47) 221 := cz_ext _ (fun j a c => by
          by_cases q : j = to
          · subst q; rw [e7, e]; exact ra_eq
          · exact ra_ne q rfl)
        rw [if_pos e] at e4
        have := e2 e
        omega⟩)
end
section
def NUM (σ : MS) : Prop := ∀ g, 0 ≤ g → g < 192 → 0 ≤ σ.2.1 64 g ∧ σ.2.1 64 g < 192
theorem NUM.fr {ss ks js : List Nat} {σ τ : MS} (h : NUM σ) (f : Fr ss ks js σ τ) (hk : 64 ∉ ks) : NUM τ := fun l => by rw [f.2.1 64 hk]; exact h l
def OFF (x : Int) (σ τ : MS) : Prop := (∀ y, y ≠ x → τ.2.1 3 y = σ.2.1 3 y ∧ τ.2.1 4 y = σ.2.1 4 y ∧ τ.2.1 5 y = σ.2.1 5 y ∧ τ.2.1 6 y = σ.2.1 6 y) ∧ (∀ z, (z < 4 * x ∨ 4 * x + 4 ≤ z) → τ.2.1 7 z = σ.2.1 7 z ∧ τ.2.1 8 z = σ.2.1 8 z) ∧ τ.2.1 9 = σ.2.1 9 ∧ τ.2.1 11 = σ.2.1 11
theorem OFF.trans {x : Int} {σ τ υ : MS} (h : OFF x σ τ) (g : OFF x τ υ) : OFF x σ υ := ⟨fun y hy => ⟨((g.1 y hy).1).trans (h.1 y hy).1, ((g.1 y hy).2.1).trans (h.1 y hy).2.1, ((g.1 y hy).2.2.1).trans (h.1 y hy).2.2.1, ((g.1 y hy).2.2.2).trans (h.1 y hy).2.2.2⟩, fun z hz => ⟨((g.2.1 z hz).1).trans (h.2.1 z hz).1, ((g.2.1 z hz).2).trans (h.2.1 z hz).2⟩, g.2.2.1.trans h.2.2.1, g.2.2.2.trans h.2.2.2⟩
theorem OFF.rfl {x : Int} {σ : MS} : OFF x σ σ := ⟨fun _ _ => ⟨Eq.refl _, Eq.refl _, Eq.refl _, Eq.refl _⟩, fun _ _ => ⟨Eq.refl _, Eq.refl _⟩, Eq.refl _, Eq.refl _⟩
theorem OFF.A {x : Int} {k : Nat} {v : Int} {σ : MS} (hk : k = 3 ∨ k = 4 ∨ k = 5 ∨ k = 6) : OFF x σ (sA k x v σ) := by
  refine ⟨fun y hy => ?_, fun z hz => ?_, ?_, ?_⟩
  · rcases hk with rfl | rfl | rfl | rfl <;> simp [sA, hy]
  · rcases hk with rfl | rfl | rfl | rfl <;> simp [sA]
  · rcases hk with rfl | rfl | rfl | rfl <;> simp [sA]
  · rcases hk with rfl | rfl | rfl | rfl <;> simp [sA]
theorem OFF.arg {x i k v : Int} {σ : MS} (h0 : 0 ≤ i) (h1 : i < 4) : OFF x σ (fArg x i k v σ) := by
  refine ⟨fun y hy => ⟨Eq.refl _, Eq.refl _, Eq.refl _, Eq.refl _⟩, fun z hz => ⟨?_, ?_⟩, Eq.refl _, Eq.refl _⟩
  · exact ra_o (by decide) (ra_ne (by omega) (Eq.refl _))
  · exact ra_ne (by omega) (ra_o (by decide) (Eq.refl _))
theorem OFF.nargs {x y : Int} {σ τ : MS} (h : OFF x σ τ) (hy : y ≠ x) : nArgs τ y = nArgs σ y := by
  obtain ⟨a1, a2, a3, a4⟩ := h.1 y hy
  unfold nArgs
  rw [a1, a3, a4, h.2.2.2]
theorem OFF.oki {x y F : Int} {σ τ : MS} (h : OFF x σ τ) (hy : y ≠ x) (ho : OKI σ F y) : OKI τ F y := by
  obtain ⟨a1, a2, a3, a4⟩ := h.1 y hy
  unfold OKI at ho ⊢
  rw [a1, a2, a3, a4, h.nargs hy]
  obtain ⟨o1, o2, o3, o4, o5, o6, o7, o8, o9⟩ := ho
  refine ⟨o1, o2, o3, o4, o5, o6, o7, fun i c e => ?_, ?_⟩
  · rw [(h.2.1 (4 * y + i) (by omega)).1, (h.2.1 (4 * y + i) (by omega)).2]
    exact o8 i c e
  · rw [(h.2.1 (4 * y + 0) (by omega)).1]
    exact o9
theorem OFF.oks {r k F : Int} {σ τ : MS} (h : OFF (220 * r + k) σ τ) (ho : OKS σ F r) (hx : OKI τ F (220 * r + k)) : OKS τ F r := fun j a b => by
  rw [h.2.2.1] at b
  by_cases e : j = k
  · subst e; exact hx
  · exact h.oki (by omega) (ho j a b)
def fGone (x w : Int) (σ : MS) : MS := fArg x 1 0 0 (fArg x 0 0 0 (sA 6 x w σ))
theorem fGone_off {x w : Int} {σ : MS} : OFF x σ (fGone x w σ) := ((OFF.A (by decide)).trans (OFF.arg (by decide) (by decide))).trans (OFF.arg (by decide) (by decide))
theorem fGone_oki {x w F : Int} {σ : MS} (ho : OKI σ F x) (hk : σ.2.1 3 x = 12) (hw : 10 ≤ w) : OKI (fGone x w σ) F x := by
  have e3 : (fGone x w σ).2.1 3 = σ.2.1 3 := rfl
  have e4 : (fGone x w σ).2.1 4 = σ.2.1 4 := rfl
  have e5 : (fGone x w σ).2.1 5 = σ.2.1 5 := rfl
  have e6 : (fGone x w σ).2.1 6 x = w := ra_o (by decide) (ra_o (by decide) (ra_o (by decide) (ra_o (by decide) ra_eq)))
  obtain ⟨o1, o2, o3, o4, o5, o6, o7, o8, o9⟩ := ho
  have hn : nArgs σ x ≤ 2 := by unfold nArgs; rw [hk]; simp only [show ¬ ((12 : Int) = 10) by decide, if_false, if_true]; (repeat' split) <;> omega
  unfold OKI
  rw [e3, e4, e5, e6]
  refine ⟨o1, o2, o3, o4, o5, o6, o7, fun i c e => ?_, fun _ q => by omega⟩
  have hz : (fGone x w σ).2.1 7 (4 * x + i) = 0 ∨ ((fGone x w σ).2.1 7 (4 * x + i) = σ.2.1 7 (4 * x + i) ∧ 2 ≤ i) := by
    by_cases i0 : i = 0
    · subst i0; exact Or.inl (ra_o (by decide) (ra_ne (by omega) (ra_o (by decide) ra_eq)))
    · by_cases i1 : i = 1
      · subst i1; exact Or.inl (ra_o (by decide) ra_eq)
      · exact Or.inr ⟨ra_o (by decide) (ra_ne (by omega) (ra_o (by decide) (ra_ne (by omega) (ra_o (by decide) rfl)))), by omega⟩
  have := o8 i c e
  rcases hz with hz | ⟨hz, h2⟩
  · rw [hz]; exact ⟨by omega, fun q => by omega⟩
  · rw [hz]; exact ⟨this.1, fun q => by have := (this.2 q).2; omega⟩

theorem dX12_unbind_7 : decode cX12_unbind 7 = .ok (.iload_n 2, 1) := by decide +kernel
theorem dX12_unbind_8 : decode cX12_unbind 8 = .ok (.aload_n 0, 1) := by decide +kernel
theorem dX12_unbind_9 : decode cX12_unbind 9 = .ok (.getfield 32, 3) := by decide +kernel
theorem dX12_unbind_12 : decode cX12_unbind 12 = .ok (.iload_n 1, 1) := by decide +kernel
theorem dX12_unbind_13 : decode cX12_unbind 13 = .ok (.iaload, 1) := by decide +kernel
theorem dX12_unbind_14 : decode cX12_unbind 14 = .ok (.if_icmp .gt 16, 3) := by decide +kernel
theorem dX12_unbind_17 : decode cX12_unbind 17 = .ok (.aload_n 0, 1) := by decide +kernel
theorem dX12_unbind_18 : decode cX12_unbind 18 = .ok (.getfield 91, 3) := by decide +kernel
theorem dX12_unbind_21 : decode cX12_unbind 21 = .ok (.iload_n 2, 1) := by decide +kernel
theorem dX12_unbind_22 : decode cX12_unbind 22 = .ok (.iconst 0, 1) := by decide +kernel
theorem dX12_unbind_23 : decode cX12_unbind 23 = .ok (.bastore, 1) := by decide +kernel
theorem dX12_unbind_24 : decode cX12_unbind 24 = .ok (.iinc 2 1, 3) := by decide +kernel
theorem dX12_unbind_27 : decode cX12_unbind 27 = .ok (.goto (-20), 3) := by decide +kernel
set_option maxHeartbeats 4000000 in
set_option maxRecDepth 20000 in
theorem l_unb1 (d : Nat) {b : Nat} {σ0 : MS} {r : Int} {post : Option Value → MS → Prop} (hr : 0 ≤ r ∧ r < 6) (hR0 : RG σ0) (hit : 0 ≤ σ0.2.1 9 r ∧ σ0.2.1 9 r ≤ 220) (hx_30 : ∀ (k : Int) (σ : MS) , (Fr [] [47] [] σ0 σ) → (RG σ) → (BO 47 σ) → Tm (d + 1) m_X12_unbind 30 b σ [(2, .int (iI k)), (0, .ref b), (1, .int (iI r))] [] post) : ∀ (n : Nat) (k : Int) (σ : MS) , (Fr [] [47] [] σ0 σ) → (RG σ) → (0 ≤ k ∧ k ≤ 221) → (BO 47 σ) → (221 - k).toNat = n → Tm (d + 1) m_X12_unbind 7 b σ [(2, .int (iI k)), (0, .ref b), (1, .int (iI r))] [] post := by
  intro n
  induction n using Nat.strongRecOn with
  | _ n ih =>
    intro k σ hF hR h0 hbo hm
    refine tm_iload_n dX12_unbind_7 rfl 0 rfl ?_
    refine tm_aload_n dX12_unbind_8 rfl 1 rfl ?_
    refine tm_get (k := 9) (v := .ref (b + 1 + 7)) lay_12 dX12_unbind_9 (by decide) fl12_32 rfl ?_
    refine tm_iload_n dX12_unbind_12 rfl 2 rfl ?_
    refine tm_iald (z := r) (v := σ0.2.1 9 r) dX12_unbind_13 (show mT[7]? = some (9, 0, 13) from rfl) (by omega) (by omega) (by decide) (ra_F hF (by decide) (rfl)) ?_
    have g1 := RG.a hR0 9 (r)
    refine tm_icmp_gt (tgt := 30) dX12_unbind_14 (by decide) ⟨by omega, by omega⟩ ⟨by omega, by omega⟩ (fun h2 => ?_) (fun h2 => ?_)
    · exact tm_sub [0, 1, 2] rfl (hx_30 (k) σ (Fr.rfl.trans (Fr.sub hF (by decide) (by decide) (by decide))) hR hbo)
    · refine tm_aload_n dX12_unbind_17 rfl 1 rfl ?_
      refine tm_get (k := 47) (v := .ref (b + 1 + 25)) lay_12 dX12_unbind_18 (by decide) fl12_91 rfl ?_
      refine tm_iload_n dX12_unbind_21 rfl 0 rfl ?_
      refine tm_iconst dX12_unbind_22 ?_
      refine tm_zast (z := k) (v := 0) dX12_unbind_23 (show mT[25]? = some (47, 2, 221) from rfl) (by omega) (by omega) (by decide) (by omega) ?_
      refine tm_iinc (q0 := 0) (L' := [(2, .int (iI (k + 1))), (0, .ref b), (1, .int (iI r))]) dX12_unbind_24 rfl (by decide) rfl ?_
      refine tm_goto (tgt := 7) dX12_unbind_27 (by decide) ?_
      exact tm_sub [0, 1, 2] rfl (ih _ (by omega) (k + 1) (sA 47 (k) (0) σ) ((Fr.rfl.trans (Fr.sub hF (by decide) (by decide) (by decide))).A (by decide)) (hR.A (by omega)) (by omega) (hbo.A (by omega)) rfl)
theorem dX12_unbind_32 : decode cX12_unbind 32 = .ok (.iload_n 2, 1) := by decide +kernel
theorem dX12_unbind_33 : decode cX12_unbind 33 = .ok (.sipush 192, 3) := by decide +kernel
theorem dX12_unbind_36 : decode cX12_unbind 36 = .ok (.if_icmp .ge 16, 3) := by decide +kernel
theorem dX12_unbind_39 : decode cX12_unbind 39 = .ok (.aload_n 0, 1) := by decide +kernel
theorem dX12_unbind_40 : decode cX12_unbind 40 = .ok (.getfield 149, 3) := by decide +kernel
theorem dX12_unbind_43 : decode cX12_unbind 43 = .ok (.iload_n 2, 1) := by decide +kernel
theorem dX12_unbind_44 : decode cX12_unbind 44 = .ok (.iconst (-1), 1) := by decide +kernel
theorem dX12_unbind_45 : decode cX12_unbind 45 = .ok (.iastore, 1) := by decide +kernel
theorem dX12_unbind_46 : decode cX12_unbind 46 = .ok (.iinc 2 1, 3) := by decide +kernel
theorem dX12_unbind_49 : decode cX12_unbind 49 = .ok (.goto (-17), 3) := by decide +kernel
set_option maxHeartbeats 4000000 in
set_option maxRecDepth 20000 in
theorem l_unb2 (d : Nat) {b : Nat} {σ0 : MS} {r : Int} {post : Option Value → MS → Prop} (hx_52 : ∀ (g : Int) (σ : MS) , (Fr [] [66] [] σ0 σ) → (RG σ) → Tm (d + 1) m_X12_unbind 52 b σ [(2, .int (iI g)), (0, .ref b), (1, .int (iI r))] [] post) : ∀ (n : Nat) (g : Int) (σ : MS) , (Fr [] [66] [] σ0 σ) → (RG σ) → (0 ≤ g ∧ g ≤ 192) → (192 - g).toNat = n → Tm (d + 1) m_X12_unbind 32 b σ [(2, .int (iI g)), (0, .ref b), (1, .int (iI r))] [] post := by
  intro n
  induction n using Nat.strongRecOn with
  | _ n ih =>
    intro g σ hF hR h0 hm
    refine tm_iload_n dX12_unbind_32 rfl 0 rfl ?_
    refine tm_sipush dX12_unbind_33 (by decide) ?_
    refine tm_icmp_ge (tgt := 52) dX12_unbind_36 (by decide) ⟨by omega, by omega⟩ ⟨by decide, by decide⟩ (fun h1 => ?_) (fun h1 => ?_)
    · exact tm_sub [0, 1, 2] rfl (hx_52 (g) σ (Fr.rfl.trans (Fr.sub hF (by decide) (by decide) (by decide))) hR)
    · refine tm_aload_n dX12_unbind_39 rfl 1 rfl ?_
      refine tm_get (k := 66) (v := .ref (b + 1 + 43)) lay_12 dX12_unbind_40 (by decide) fl12_149 rfl ?_
      refine tm_iload_n dX12_unbind_43 rfl 0 rfl ?_
      refine tm_iconst dX12_unbind_44 ?_
      refine tm_iast (z := g) (v := -1) dX12_unbind_45 (show mT[43]? = some (66, 0, 192) from rfl) (by omega) (by omega) (by decide) ?_
      refine tm_iinc (q0 := 0) (L' := [(2, .int (iI (g + 1))), (0, .ref b), (1, .int (iI r))]) dX12_unbind_46 rfl (by decide) rfl ?_
      refine tm_goto (tgt := 32) dX12_unbind_49 (by decide) ?_
      exact tm_sub [0, 1, 2] rfl (ih _ (by omega) (g + 1) (sA 66 (g) (-1) σ) ((Fr.rfl.trans (Fr.sub hF (by decide) (by decide) (by decide))).A (by decide)) (hR.A (by omega)) (by omega) rfl)
theorem ml12_521 : Cond.methodLink RX12 521 yX12_isAtBegin ∈ pWW := pw9 (List.mem_of_getElem? (i := 213) rfl) rfl
theorem fl12_143 : Cond.fieldLink RX12 143 (TX12 64).1 (TX12 64).2.1 (TX12 64).2.2.1 ∈ pWW := pw7 (List.mem_of_getElem? (i := 71) rfl) rfl
theorem dX12_unbind_54 : decode cX12_unbind 54 = .ok (.iload_n 2, 1) := by decide +kernel
theorem dX12_unbind_55 : decode cX12_unbind 55 = .ok (.sipush 192, 3) := by decide +kernel
theorem dX12_unbind_58 : decode cX12_unbind 58 = .ok (.if_icmp .ge 30, 3) := by decide +kernel
theorem dX12_unbind_61 : decode cX12_unbind 61 = .ok (.aload_n 0, 1) := by decide +kernel
theorem dX12_unbind_62 : decode cX12_unbind 62 = .ok (.iload_n 1, 1) := by decide +kernel
theorem dX12_unbind_63 : decode cX12_unbind 63 = .ok (.iload_n 2, 1) := by decide +kernel
theorem dX12_unbind_64 : decode cX12_unbind 64 = .ok (.invokevirtual 521, 3) := by decide +kernel
theorem dX12_unbind_67 : decode cX12_unbind 67 = .ok (.ifCond .eq 15, 3) := by decide +kernel
theorem dX12_unbind_82 : decode cX12_unbind 82 = .ok (.iinc 2 1, 3) := by decide +kernel
theorem dX12_unbind_85 : decode cX12_unbind 85 = .ok (.goto (-31), 3) := by decide +kernel
theorem dX12_unbind_70 : decode cX12_unbind 70 = .ok (.aload_n 0, 1) := by decide +kernel
theorem dX12_unbind_71 : decode cX12_unbind 71 = .ok (.getfield 149, 3) := by decide +kernel
theorem dX12_unbind_74 : decode cX12_unbind 74 = .ok (.aload_n 0, 1) := by decide +kernel
theorem dX12_unbind_75 : decode cX12_unbind 75 = .ok (.getfield 143, 3) := by decide +kernel
theorem dX12_unbind_78 : decode cX12_unbind 78 = .ok (.iload_n 2, 1) := by decide +kernel
theorem dX12_unbind_79 : decode cX12_unbind 79 = .ok (.iaload, 1) := by decide +kernel
theorem dX12_unbind_80 : decode cX12_unbind 80 = .ok (.iload_n 2, 1) := by decide +kernel
theorem dX12_unbind_81 : decode cX12_unbind 81 = .ok (.iastore, 1) := by decide +kernel
set_option maxHeartbeats 4000000 in
set_option maxRecDepth 20000 in
theorem l_unb3 (d : Nat) {b : Nat} {σ0 : MS} {r : Int} {post : Option Value → MS → Prop} (hr : 0 ≤ r ∧ r < 6) (hR0 : RG σ0) (hpar : PAR σ0) (hbl : BO 59 σ0) (hnu : NUM σ0) (hx_88 : ∀ (g : Int) (σ : MS) , (Fr [] [66] [] σ0 σ) → (RG σ) → Tm (d + 3) m_X12_unbind 88 b σ [(2, .int (iI g)), (0, .ref b), (1, .int (iI r))] [] post) : ∀ (n : Nat) (g : Int) (σ : MS) , (Fr [] [66] [] σ0 σ) → (RG σ) → (0 ≤ g ∧ g ≤ 192) → (192 - g).toNat = n → Tm (d + 3) m_X12_unbind 54 b σ [(2, .int (iI g)), (0, .ref b), (1, .int (iI r))] [] post := by
  intro n
  induction n using Nat.strongRecOn with
  | _ n ih =>
    intro g σ hF hR h0 hm
    refine tm_iload_n dX12_unbind_54 rfl 0 rfl ?_
    refine tm_sipush dX12_unbind_55 (by decide) ?_
    refine tm_icmp_ge (tgt := 88) dX12_unbind_58 (by decide) ⟨by omega, by omega⟩ ⟨by decide, by decide⟩ (fun h1 => ?_) (fun h1 => ?_)
    · exact tm_sub [0, 1, 2] rfl (hx_88 (g) σ (Fr.rfl.trans (Fr.sub hF (by decide) (by decide) (by decide))) hR)
    · refine tm_aload_n dX12_unbind_61 rfl 1 rfl ?_
      refine tm_iload_n dX12_unbind_62 rfl 2 rfl ?_
      refine tm_iload_n dX12_unbind_63 rfl 0 rfl ?_
      refine tm_callV (M := m_X12_unbind) (pc := 64) (ix := 521) (M' := m_X12_isAtBegin) (As := [.int (iI r), .int (iI g)]) (rest := []) dX12_unbind_64 ok_X12_isAtBegin im_X12_isAtBegin se_X12_isAtBegin ml12_521 np_X12_isAtBegin rfl rfl (Nat.le_of_ble_eq_true rfl) (Nat.le_of_ble_eq_true rfl) rfl (c_X12_isAtBegin (d) (σ := σ) (r := r) (g := g) (by omega) hR (hpar.fr hF (by decide)) (hbl.fr hF (by decide)) (by omega)) (fun r2 σ3 hp => ?_)
      obtain ⟨v4, rfl, rfl, f5⟩ := hp
      show Tm _ _ 67 b σ [(2, .int (iI g)), (0, .ref b), (1, .int (iI r))] [.int (iI v4)] _
      refine tm_if_eq (tgt := 82) dX12_unbind_67 (by decide) ⟨by omega, by omega⟩ (fun h6 => ?_) (fun h6 => ?_)
      · refine tm_iinc (q0 := 0) (L' := [(2, .int (iI (g + 1))), (0, .ref b), (1, .int (iI r))]) dX12_unbind_82 rfl (by decide) rfl ?_
        refine tm_goto (tgt := 54) dX12_unbind_85 (by decide) ?_
        exact tm_sub [0, 1, 2] rfl (ih _ (by omega) (g + 1) σ (Fr.rfl.trans (Fr.sub hF (by decide) (by decide) (by decide))) hR (by omega) rfl)
      · refine tm_aload_n dX12_unbind_70 rfl 1 rfl ?_
        refine tm_get (k := 66) (v := .ref (b + 1 + 43)) lay_12 dX12_unbind_71 (by decide) fl12_149 rfl ?_
        refine tm_aload_n dX12_unbind_74 rfl 1 rfl ?_
        refine tm_get (k := 64) (v := .ref (b + 1 + 41)) lay_12 dX12_unbind_75 (by decide) fl12_143 rfl ?_
        refine tm_iload_n dX12_unbind_78 rfl 0 rfl ?_
        refine tm_iald (z := g) (v := σ0.2.1 64 g) dX12_unbind_79 (show mT[41]? = some (64, 0, 192) from rfl) (by omega) (by omega) (by decide) (ra_F hF (by decide) (rfl)) ?_
        have g7 := RG.a hR0 64 (g)
        have := hnu (g) (by omega) (by omega)
        refine tm_iload_n dX12_unbind_80 rfl 0 rfl ?_
        refine tm_iast (z := σ0.2.1 64 g) (v := g) dX12_unbind_81 (show mT[43]? = some (66, 0, 192) from rfl) (by omega) (by omega) (by decide) ?_
        refine tm_iinc (q0 := 0) (L' := [(2, .int (iI (g + 1))), (0, .ref b), (1, .int (iI r))]) dX12_unbind_82 rfl (by decide) rfl ?_
        refine tm_goto (tgt := 54) dX12_unbind_85 (by decide) ?_
        exact tm_sub [0, 1, 2] rfl (ih _ (by omega) (g + 1) (sA 66 (σ0.2.1 64 g) (g) σ) ((Fr.rfl.trans (Fr.sub hF (by decide) (by decide) (by decide))).A (by decide)) (hR.A (by omega)) (by omega) rfl)
theorem ml12_533 : Cond.methodLink RX12 533 yX12_comesLast ∈ pWW := pw9 (List.mem_of_getElem? (i := 225) rfl) rfl
theorem dX12_unbind_209 : decode cX12_unbind 209 = .ok (.iload 5, 2) := by decide +kernel
theorem dX12_unbind_211 : decode cX12_unbind 211 = .ok (.iconst 2, 1) := by decide +kernel
theorem dX12_unbind_212 : decode cX12_unbind 212 = .ok (.if_icmp .ge 42, 3) := by decide +kernel
theorem dX12_unbind_215 : decode cX12_unbind 215 = .ok (.aload_n 0, 1) := by decide +kernel
theorem dX12_unbind_216 : decode cX12_unbind 216 = .ok (.iload_n 1, 1) := by decide +kernel
theorem dX12_unbind_217 : decode cX12_unbind 217 = .ok (.iload_n 3, 1) := by decide +kernel
theorem dX12_unbind_218 : decode cX12_unbind 218 = .ok (.iload 5, 2) := by decide +kernel
theorem dX12_unbind_220 : decode cX12_unbind 220 = .ok (.invokevirtual 413, 3) := by decide +kernel
theorem dX12_unbind_223 : decode cX12_unbind 223 = .ok (.istore 6, 2) := by decide +kernel
theorem dX12_unbind_225 : decode cX12_unbind 225 = .ok (.iload_n 2, 1) := by decide +kernel
theorem dX12_unbind_226 : decode cX12_unbind 226 = .ok (.iload 6, 2) := by decide +kernel
theorem dX12_unbind_228 : decode cX12_unbind 228 = .ok (.iconst (-1), 1) := by decide +kernel
theorem dX12_unbind_229 : decode cX12_unbind 229 = .ok (.if_icmp .eq 16, 3) := by decide +kernel
theorem dX12_unbind_245 : decode cX12_unbind 245 = .ok (.iconst 0, 1) := by decide +kernel
theorem dX12_unbind_246 : decode cX12_unbind 246 = .ok (.ior, 1) := by decide +kernel
theorem dX12_unbind_247 : decode cX12_unbind 247 = .ok (.istore_n 2, 1) := by decide +kernel
theorem dX12_unbind_248 : decode cX12_unbind 248 = .ok (.iinc 5 1, 3) := by decide +kernel
theorem dX12_unbind_251 : decode cX12_unbind 251 = .ok (.goto (-42), 3) := by decide +kernel
theorem dX12_unbind_232 : decode cX12_unbind 232 = .ok (.aload_n 0, 1) := by decide +kernel
theorem dX12_unbind_233 : decode cX12_unbind 233 = .ok (.iload 6, 2) := by decide +kernel
theorem dX12_unbind_235 : decode cX12_unbind 235 = .ok (.invokevirtual 533, 3) := by decide +kernel
theorem dX12_unbind_238 : decode cX12_unbind 238 = .ok (.ifCond .eq 7, 3) := by decide +kernel
theorem dX12_unbind_241 : decode cX12_unbind 241 = .ok (.iconst 1, 1) := by decide +kernel
theorem dX12_unbind_242 : decode cX12_unbind 242 = .ok (.goto 4, 3) := by decide +kernel
set_option maxHeartbeats 4000000 in
set_option maxRecDepth 20000 in
theorem l_unb7 (d : Nat) {b : Nat} {σ0 : MS} {r : Int} {F : Int} {m : Int} {k : Int} {C0 : Int} {post : Option Value → MS → Prop} (hr : 0 ≤ r ∧ r < 6) (hR0 : RG σ0) (hit : ITM σ0) (hok : OKS σ0 F r) (htg : TGT σ0 r) (hnu : NUM σ0) (hm : m = σ0.2.1 9 r) (hk : 0 ≤ k ∧ k < m) (hx_254 : ∀ (w : Int) (i : Int) (σ : MS) , (Fr [] [47, 65] [] σ0 σ) → (RG σ) → (w = 0 ∨ w = 1) → (BO 47 σ) → (193 * (cz (σ.2.1 47) 221 : Int) + (cr (σ.2.1 47) (σ.2.1 65) 221 : Int) + w ≤ C0) → Tm (d + 3) m_X12_unbind 254 b σ [(5, .int (iI i)), (3, .int (iI k)), (2, .int (iI w)), (0, .ref b), (1, .int (iI r))] [] post) : ∀ (n : Nat) (w : Int) (i : Int) (σ : MS) , (Fr [] [47, 65] [] σ0 σ) → (RG σ) → ((w = 0 ∨ w = 1) ∧ 0 ≤ i ∧ i ≤ 2) → (BO 47 σ) → (193 * (cz (σ.2.1 47) 221 : Int) + (cr (σ.2.1 47) (σ.2.1 65) 221 : Int) + w ≤ C0) → (2 - i).toNat = n → Tm (d + 3) m_X12_unbind 209 b σ [(5, .int (iI i)), (3, .int (iI k)), (2, .int (iI w)), (0, .ref b), (1, .int (iI r))] [] post := by
  intro n
  induction n using Nat.strongRecOn with
  | _ n ih =>
    intro w i σ hF hR h0 hbo hcn hm
    have hit1 := hit.fr hF (by decide)
    have hok1 := hok.fr hF (by decide)
    have htg1 := htg.fr hF (by decide)
    have hnu1 := hnu.fr hF (by decide)
    have q1 := hit r (by omega) (by omega)
    have q9 : σ.2.1 9 r = σ0.2.1 9 r := by rw [hF.2.1 9 (by decide)]
    have q5 := htg1 k (by omega) (by omega)
    refine tm_iload dX12_unbind_209 0 rfl ?_
    refine tm_iconst dX12_unbind_211 ?_
    refine tm_icmp_ge (tgt := 254) dX12_unbind_212 (by decide) ⟨by omega, by omega⟩ ⟨by decide, by decide⟩ (fun h1 => ?_) (fun h1 => ?_)
    · exact tm_sub [0, 1, 2, 3, 4] rfl (hx_254 (w) (i) σ (Fr.rfl.trans (Fr.sub hF (by decide) (by decide) (by decide))) hR (by omega) hbo hcn)
    · refine tm_aload_n dX12_unbind_215 rfl 3 rfl ?_
      refine tm_iload_n dX12_unbind_216 rfl 4 rfl ?_
      refine tm_iload_n dX12_unbind_217 rfl 1 rfl ?_
      refine tm_iload dX12_unbind_218 0 rfl ?_
      refine tm_callV (M := m_X12_unbind) (pc := 220) (ix := 413) (M' := m_X12_goesOn) (As := [.int (iI r), .int (iI k), .int (iI i)]) (rest := []) dX12_unbind_220 ok_X12_goesOn im_X12_goesOn se_X12_goesOn ml12_413 np_X12_goesOn rfl rfl (Nat.le_of_ble_eq_true rfl) (Nat.le_of_ble_eq_true rfl) rfl (c_X12_goesOn (d) (σ := σ) (r := r) (k := k) (how := i) (by omega) hR (by omega) (fun q => hok1.jmp _ (by omega) (by omega) (by omega)) (by omega)) (fun r2 σ3 hp => ?_)
      obtain ⟨v4, rfl, rfl, f5, f6, f7, f8⟩ := hp
      show Tm _ _ 223 b σ [(5, .int (iI i)), (3, .int (iI k)), (2, .int (iI w)), (0, .ref b), (1, .int (iI r))] [.int (iI v4)] _
      refine tm_istore (L' := [(6, .int (iI v4)), (5, .int (iI i)), (3, .int (iI k)), (2, .int (iI w)), (0, .ref b), (1, .int (iI r))]) dX12_unbind_223 (by decide) rfl ?_
      refine tm_iload_n dX12_unbind_225 rfl 3 rfl ?_
      refine tm_iload dX12_unbind_226 0 rfl ?_
      refine tm_iconst dX12_unbind_228 ?_
      refine tm_icmp_eq (tgt := 245) dX12_unbind_229 (by decide) ⟨by omega, by omega⟩ ⟨by decide, by decide⟩ (fun h9 => ?_) (fun h9 => ?_)
      · refine tm_iconst dX12_unbind_245 ?_
        refine tm_iorZ (x := w) (y := 0) dX12_unbind_246 (by omega) (by omega) (fun c10 g11 => ?_)
        refine tm_istore_n (L' := [(2, .int (iI c10)), (6, .int (iI v4)), (5, .int (iI i)), (3, .int (iI k)), (0, .ref b), (1, .int (iI r))]) dX12_unbind_247 rfl (by decide) rfl ?_
        refine tm_iinc (q0 := 2) (L' := [(5, .int (iI (i + 1))), (2, .int (iI c10)), (6, .int (iI v4)), (3, .int (iI k)), (0, .ref b), (1, .int (iI r))]) dX12_unbind_248 rfl (by decide) rfl ?_
        refine tm_goto (tgt := 209) dX12_unbind_251 (by decide) ?_
        exact tm_sub [0, 3, 1, 4, 5] rfl (ih _ (by omega) (c10) (i + 1) σ (Fr.rfl.trans (Fr.sub hF (by decide) (by decide) (by decide))) hR (by omega) (by assumption) (by omega) rfl)
      · refine tm_aload_n dX12_unbind_232 rfl 4 rfl ?_
        refine tm_iload dX12_unbind_233 0 rfl ?_
        refine tm_callV (M := m_X12_unbind) (pc := 235) (ix := 533) (M' := m_X12_comesLast) (As := [.int (iI v4)]) (rest := [.int (iI w)]) dX12_unbind_235 ok_X12_comesLast im_X12_comesLast se_X12_comesLast ml12_533 np_X12_comesLast rfl rfl (Nat.le_of_ble_eq_true rfl) (Nat.le_of_ble_eq_true rfl) rfl (c_X12_comesLast (d + 1) (σ := σ) (to := v4) hR hbo (by omega)) (fun r12 σ13 hp => ?_)
        obtain ⟨v14, rfl, f15, f16, f17, f18, f19⟩ := hp
        show Tm _ _ 238 b σ13 [(6, .int (iI v4)), (5, .int (iI i)), (3, .int (iI k)), (2, .int (iI w)), (0, .ref b), (1, .int (iI r))] [.int (iI v14), .int (iI w)] _
        refine tm_if_eq (tgt := 245) dX12_unbind_238 (by decide) ⟨by omega, by omega⟩ (fun h20 => ?_) (fun h20 => ?_)
        · refine tm_iconst dX12_unbind_245 ?_
          refine tm_iorZ (x := w) (y := 0) dX12_unbind_246 (by omega) (by omega) (fun c21 g22 => ?_)
          refine tm_istore_n (L' := [(2, .int (iI c21)), (6, .int (iI v4)), (5, .int (iI i)), (3, .int (iI k)), (0, .ref b), (1, .int (iI r))]) dX12_unbind_247 rfl (by decide) rfl ?_
          refine tm_iinc (q0 := 2) (L' := [(5, .int (iI (i + 1))), (2, .int (iI c21)), (6, .int (iI v4)), (3, .int (iI k)), (0, .ref b), (1, .int (iI r))]) dX12_unbind_248 rfl (by decide) rfl ?_
          refine tm_goto (tgt := 209) dX12_unbind_251 (by decide) ?_
          exact tm_sub [0, 3, 1, 4, 5] rfl (ih _ (by omega) (c21) (i + 1) σ13 ((Fr.rfl.trans (Fr.sub hF (by decide) (by decide) (by decide))).trans (Fr.sub f16 (by decide) (by decide) (by decide))) f17 (by omega) (by assumption) (by omega) rfl)
        · refine tm_iconst dX12_unbind_241 ?_
          refine tm_goto (tgt := 246) dX12_unbind_242 (by decide) ?_
          refine tm_iorZ (x := w) (y := 1) dX12_unbind_246 (by omega) (by omega) (fun c23 g24 => ?_)
          refine tm_istore_n (L' := [(2, .int (iI c23)), (6, .int (iI v4)), (5, .int (iI i)), (3, .int (iI k)), (0, .ref b), (1, .int (iI r))]) dX12_unbind_247 rfl (by decide) rfl ?_
          refine tm_iinc (q0 := 2) (L' := [(5, .int (iI (i + 1))), (2, .int (iI c23)), (6, .int (iI v4)), (3, .int (iI k)), (0, .ref b), (1, .int (iI r))]) dX12_unbind_248 rfl (by decide) rfl ?_
          refine tm_goto (tgt := 209) dX12_unbind_251 (by decide) ?_
          exact tm_sub [0, 3, 1, 4, 5] rfl (ih _ (by omega) (c23) (i + 1) σ13 ((Fr.rfl.trans (Fr.sub hF (by decide) (by decide) (by decide))).trans (Fr.sub f16 (by decide) (by decide) (by decide))) f17 (by omega) (by assumption) (by omega) rfl)
theorem dX12_unbind_127 : decode cX12_unbind 127 = .ok (.iload 4, 2) := by decide +kernel
theorem dX12_unbind_129 : decode cX12_unbind 129 = .ok (.sipush 192, 3) := by decide +kernel
theorem dX12_unbind_132 : decode cX12_unbind 132 = .ok (.if_icmp .ge 29, 3) := by decide +kernel
theorem dX12_unbind_135 : decode cX12_unbind 135 = .ok (.aload_n 0, 1) := by decide +kernel
theorem dX12_unbind_136 : decode cX12_unbind 136 = .ok (.getfield 149, 3) := by decide +kernel
theorem dX12_unbind_139 : decode cX12_unbind 139 = .ok (.iload 4, 2) := by decide +kernel
theorem dX12_unbind_141 : decode cX12_unbind 141 = .ok (.aload_n 0, 1) := by decide +kernel
theorem dX12_unbind_142 : decode cX12_unbind 142 = .ok (.getfield 146, 3) := by decide +kernel
theorem dX12_unbind_145 : decode cX12_unbind 145 = .ok (.sipush 192, 3) := by decide +kernel
theorem dX12_unbind_148 : decode cX12_unbind 148 = .ok (.iload_n 3, 1) := by decide +kernel
theorem dX12_unbind_149 : decode cX12_unbind 149 = .ok (.imul, 1) := by decide +kernel
theorem dX12_unbind_150 : decode cX12_unbind 150 = .ok (.iload 4, 2) := by decide +kernel
theorem dX12_unbind_152 : decode cX12_unbind 152 = .ok (.iadd, 1) := by decide +kernel
theorem dX12_unbind_153 : decode cX12_unbind 153 = .ok (.iaload, 1) := by decide +kernel
theorem dX12_unbind_154 : decode cX12_unbind 154 = .ok (.iastore, 1) := by decide +kernel
theorem dX12_unbind_155 : decode cX12_unbind 155 = .ok (.iinc 4 1, 3) := by decide +kernel
theorem dX12_unbind_158 : decode cX12_unbind 158 = .ok (.goto (-31), 3) := by decide +kernel
set_option maxHeartbeats 4000000 in
set_option maxRecDepth 20000 in
theorem l_unb6 (d : Nat) {b : Nat} {σ0 : MS} {r : Int} {k : Int} {w : Int} {post : Option Value → MS → Prop} (hR0 : RG σ0) (hk : 0 ≤ k ∧ k ≤ 219) (hx_161 : ∀ (g : Int) (σ : MS) , (Fr [] [66] [] σ0 σ) → (RG σ) → Tm (d + 1) m_X12_unbind 161 b σ [(4, .int (iI g)), (3, .int (iI k)), (2, .int (iI w)), (0, .ref b), (1, .int (iI r))] [] post) : ∀ (n : Nat) (g : Int) (σ : MS) , (Fr [] [66] [] σ0 σ) → (RG σ) → (0 ≤ g ∧ g ≤ 192) → (192 - g).toNat = n → Tm (d + 1) m_X12_unbind 127 b σ [(4, .int (iI g)), (3, .int (iI k)), (2, .int (iI w)), (0, .ref b), (1, .int (iI r))] [] post := by
  intro n
  induction n using Nat.strongRecOn with
  | _ n ih =>
    intro g σ hF hR h0 hm
    refine tm_iload dX12_unbind_127 0 rfl ?_
    refine tm_sipush dX12_unbind_129 (by decide) ?_
    refine tm_icmp_ge (tgt := 161) dX12_unbind_132 (by decide) ⟨by omega, by omega⟩ ⟨by decide, by decide⟩ (fun h1 => ?_) (fun h1 => ?_)
    · exact tm_sub [0, 1, 2, 3, 4] rfl (hx_161 (g) σ (Fr.rfl.trans (Fr.sub hF (by decide) (by decide) (by decide))) hR)
    · refine tm_aload_n dX12_unbind_135 rfl 3 rfl ?_
      refine tm_get (k := 66) (v := .ref (b + 1 + 43)) lay_12 dX12_unbind_136 (by decide) fl12_149 rfl ?_
      refine tm_iload dX12_unbind_139 0 rfl ?_
      refine tm_aload_n dX12_unbind_141 rfl 3 rfl ?_
      refine tm_get (k := 65) (v := .ref (b + 1 + 42)) lay_12 dX12_unbind_142 (by decide) fl12_146 rfl ?_
      refine tm_sipush dX12_unbind_145 (by decide) ?_
      refine tm_iload_n dX12_unbind_148 rfl 1 rfl ?_
      refine tm_imul dX12_unbind_149 ?_
      refine tm_iload dX12_unbind_150 0 rfl ?_
      refine tm_iadd dX12_unbind_152 ?_
      refine tm_iald (z := (192 * k) + g) (v := σ0.2.1 65 ((192 * k) + g)) dX12_unbind_153 (show mT[42]? = some (65, 0, 42432) from rfl) (by omega) (by omega) (by decide) (ra_F hF (by decide) (rfl)) ?_
      have g2 := RG.a hR0 65 ((192 * k) + g)
      refine tm_iast (z := g) (v := σ0.2.1 65 ((192 * k) + g)) dX12_unbind_154 (show mT[43]? = some (66, 0, 192) from rfl) (by omega) (by omega) (by decide) ?_
      refine tm_iinc (q0 := 0) (L' := [(4, .int (iI (g + 1))), (3, .int (iI k)), (2, .int (iI w)), (0, .ref b), (1, .int (iI r))]) dX12_unbind_155 rfl (by decide) rfl ?_
      refine tm_goto (tgt := 127) dX12_unbind_158 (by decide) ?_
      exact tm_sub [0, 1, 2, 3, 4] rfl (ih _ (by omega) (g + 1) (sA 66 (g) (σ0.2.1 65 ((192 * k) + g)) σ) ((Fr.rfl.trans (Fr.sub hF (by decide) (by decide) (by decide))).A (by decide)) (hR.A (by omega)) (by omega) rfl)
theorem dX12_unbind_102 : decode cX12_unbind 102 = .ok (.iload_n 3, 1) := by decide +kernel
theorem dX12_unbind_103 : decode cX12_unbind 103 = .ok (.aload_n 0, 1) := by decide +kernel
theorem dX12_unbind_104 : decode cX12_unbind 104 = .ok (.getfield 32, 3) := by decide +kernel
theorem dX12_unbind_107 : decode cX12_unbind 107 = .ok (.iload_n 1, 1) := by decide +kernel
theorem dX12_unbind_108 : decode cX12_unbind 108 = .ok (.iaload, 1) := by decide +kernel
theorem dX12_unbind_109 : decode cX12_unbind 109 = .ok (.if_icmp .ge 151, 3) := by decide +kernel
theorem dX12_unbind_112 : decode cX12_unbind 112 = .ok (.aload_n 0, 1) := by decide +kernel
theorem dX12_unbind_113 : decode cX12_unbind 113 = .ok (.getfield 91, 3) := by decide +kernel
theorem dX12_unbind_116 : decode cX12_unbind 116 = .ok (.iload_n 3, 1) := by decide +kernel
theorem dX12_unbind_117 : decode cX12_unbind 117 = .ok (.baload, 1) := by decide +kernel
theorem dX12_unbind_118 : decode cX12_unbind 118 = .ok (.ifCond .ne 6, 3) := by decide +kernel
theorem dX12_unbind_124 : decode cX12_unbind 124 = .ok (.iconst 0, 1) := by decide +kernel
theorem dX12_unbind_125 : decode cX12_unbind 125 = .ok (.istore 4, 2) := by decide +kernel
theorem dX12_unbind_161 : decode cX12_unbind 161 = .ok (.aload_n 0, 1) := by decide +kernel
theorem dX12_unbind_162 : decode cX12_unbind 162 = .ok (.iload_n 1, 1) := by decide +kernel
theorem dX12_unbind_163 : decode cX12_unbind 163 = .ok (.iload_n 3, 1) := by decide +kernel
theorem dX12_unbind_164 : decode cX12_unbind 164 = .ok (.invokevirtual 203, 3) := by decide +kernel
theorem dX12_unbind_167 : decode cX12_unbind 167 = .ok (.istore 4, 2) := by decide +kernel
theorem dX12_unbind_169 : decode cX12_unbind 169 = .ok (.aload_n 0, 1) := by decide +kernel
theorem dX12_unbind_170 : decode cX12_unbind 170 = .ok (.getfield 13, 3) := by decide +kernel
theorem dX12_unbind_173 : decode cX12_unbind 173 = .ok (.iload 4, 2) := by decide +kernel
theorem dX12_unbind_175 : decode cX12_unbind 175 = .ok (.iaload, 1) := by decide +kernel
theorem dX12_unbind_176 : decode cX12_unbind 176 = .ok (.invokestatic 192, 3) := by decide +kernel
theorem dX12_unbind_179 : decode cX12_unbind 179 = .ok (.ifCond .eq 27, 3) := by decide +kernel
theorem dX12_unbind_206 : decode cX12_unbind 206 = .ok (.iconst 0, 1) := by decide +kernel
theorem dX12_unbind_207 : decode cX12_unbind 207 = .ok (.istore 5, 2) := by decide +kernel
theorem dX12_unbind_254 : decode cX12_unbind 254 = .ok (.iinc 3 1, 3) := by decide +kernel
theorem dX12_unbind_257 : decode cX12_unbind 257 = .ok (.goto (-155), 3) := by decide +kernel
theorem dX12_unbind_182 : decode cX12_unbind 182 = .ok (.aload_n 0, 1) := by decide +kernel
theorem dX12_unbind_183 : decode cX12_unbind 183 = .ok (.getfield 149, 3) := by decide +kernel
theorem dX12_unbind_186 : decode cX12_unbind 186 = .ok (.aload_n 0, 1) := by decide +kernel
theorem dX12_unbind_187 : decode cX12_unbind 187 = .ok (.getfield 143, 3) := by decide +kernel
theorem dX12_unbind_190 : decode cX12_unbind 190 = .ok (.aload_n 0, 1) := by decide +kernel
theorem dX12_unbind_191 : decode cX12_unbind 191 = .ok (.getfield 17, 3) := by decide +kernel
theorem dX12_unbind_194 : decode cX12_unbind 194 = .ok (.iload 4, 2) := by decide +kernel
theorem dX12_unbind_196 : decode cX12_unbind 196 = .ok (.iaload, 1) := by decide +kernel
theorem dX12_unbind_197 : decode cX12_unbind 197 = .ok (.iaload, 1) := by decide +kernel
theorem dX12_unbind_198 : decode cX12_unbind 198 = .ok (.aload_n 0, 1) := by decide +kernel
theorem dX12_unbind_199 : decode cX12_unbind 199 = .ok (.getfield 17, 3) := by decide +kernel
theorem dX12_unbind_202 : decode cX12_unbind 202 = .ok (.iload 4, 2) := by decide +kernel
theorem dX12_unbind_204 : decode cX12_unbind 204 = .ok (.iaload, 1) := by decide +kernel
theorem dX12_unbind_205 : decode cX12_unbind 205 = .ok (.iastore, 1) := by decide +kernel
theorem dX12_unbind_121 : decode cX12_unbind 121 = .ok (.goto 133, 3) := by decide +kernel
set_option maxHeartbeats 4000000 in
set_option maxRecDepth 20000 in
theorem l_unb5 (d : Nat) {b : Nat} {σ0 : MS} {r : Int} {F : Int} {m : Int} {C0 : Int} {post : Option Value → MS → Prop} (hr : 0 ≤ r ∧ r < 6) (hR0 : RG σ0) (hit : ITM σ0) (hok : OKS σ0 F r) (htg : TGT σ0 r) (hnu : NUM σ0) (hm : m = σ0.2.1 9 r) (hx_260 : ∀ (w : Int) (k : Int) (σ : MS) , (Fr [] [47, 65, 66] [] σ0 σ) → (RG σ) → (w = 0 ∨ w = 1) → (BO 47 σ) → (193 * (cz (σ.2.1 47) 221 : Int) + (cr (σ.2.1 47) (σ.2.1 65) 221 : Int) + w ≤ C0) → Tm (d + 3) m_X12_unbind 260 b σ [(3, .int (iI k)), (2, .int (iI w)), (0, .ref b), (1, .int (iI r))] [] post) : ∀ (n : Nat) (w : Int) (k : Int) (σ : MS) , (Fr [] [47, 65, 66] [] σ0 σ) → (RG σ) → ((w = 0 ∨ w = 1) ∧ 0 ≤ k ∧ k ≤ m) → (BO 47 σ) → (193 * (cz (σ.2.1 47) 221 : Int) + (cr (σ.2.1 47) (σ.2.1 65) 221 : Int) + w ≤ C0) → (m - k).toNat = n → Tm (d + 3) m_X12_unbind 102 b σ [(3, .int (iI k)), (2, .int (iI w)), (0, .ref b), (1, .int (iI r))] [] post := by
  intro n
  induction n using Nat.strongRecOn with
  | _ n ih =>
    intro w k σ hF hR h0 hbo hcn hm
    have hit1 := hit.fr hF (by decide)
    have hok1 := hok.fr hF (by decide)
    have htg1 := htg.fr hF (by decide)
    have hnu1 := hnu.fr hF (by decide)
    have q1 := hit r (by omega) (by omega)
    have q9 : σ.2.1 9 r = σ0.2.1 9 r := by rw [hF.2.1 9 (by decide)]
    refine tm_iload_n dX12_unbind_102 rfl 0 rfl ?_
    refine tm_aload_n dX12_unbind_103 rfl 2 rfl ?_
    refine tm_get (k := 9) (v := .ref (b + 1 + 7)) lay_12 dX12_unbind_104 (by decide) fl12_32 rfl ?_
    refine tm_iload_n dX12_unbind_107 rfl 3 rfl ?_
    refine tm_iald (z := r) (v := σ0.2.1 9 r) dX12_unbind_108 (show mT[7]? = some (9, 0, 13) from rfl) (by omega) (by omega) (by decide) (ra_F hF (by decide) (rfl)) ?_
    have g1 := RG.a hR0 9 (r)
    refine tm_icmp_ge (tgt := 260) dX12_unbind_109 (by decide) ⟨by omega, by omega⟩ ⟨by omega, by omega⟩ (fun h2 => ?_) (fun h2 => ?_)
    · exact tm_sub [0, 1, 2, 3] rfl (hx_260 (w) (k) σ (Fr.rfl.trans (Fr.sub hF (by decide) (by decide) (by decide))) hR (by omega) hbo hcn)
    · refine tm_aload_n dX12_unbind_112 rfl 2 rfl ?_
      refine tm_get (k := 47) (v := .ref (b + 1 + 25)) lay_12 dX12_unbind_113 (by decide) fl12_91 rfl ?_
      refine tm_iload_n dX12_unbind_116 rfl 0 rfl ?_
      refine tm_zald (z := k) (v := σ.2.1 47 k) dX12_unbind_117 (show mT[25]? = some (47, 2, 221) from rfl) (by omega) (by omega) (by decide) (rfl) ?_
      have g3 := RG.a hR 47 (k)
      have := hbo (k)
      refine tm_if_ne (tgt := 124) dX12_unbind_118 (by decide) ⟨by omega, by omega⟩ (fun h4 => ?_) (fun h4 => ?_)
      · refine tm_iconst dX12_unbind_124 ?_
        refine tm_istore (L' := [(4, .int (iI 0)), (3, .int (iI k)), (2, .int (iI w)), (0, .ref b), (1, .int (iI r))]) dX12_unbind_125 (by decide) rfl ?_
        refine tm_sub [0, 1, 2, 3, 4] rfl (l_unb6 (d + 2) (σ0 := σ) (r := r) (k := k) (w := w) hR (by omega) (fun g9 σ10 F7 R8 => ?_) _ (0) σ Fr.rfl hR (by omega) rfl)
        show Tm _ _ 161 b σ10 [(4, .int (iI g9)), (3, .int (iI k)), (2, .int (iI w)), (0, .ref b), (1, .int (iI r))] [] _
        refine tm_aload_n dX12_unbind_161 rfl 3 rfl ?_
        refine tm_iload_n dX12_unbind_162 rfl 4 rfl ?_
        refine tm_iload_n dX12_unbind_163 rfl 1 rfl ?_
        refine tm_callV (M := m_X12_unbind) (pc := 164) (ix := 203) (M' := m_X12_at) (As := [.int (iI r), .int (iI k)]) (rest := []) dX12_unbind_164 ok_X12_at im_X12_at se_X12_at ml12_203 np_X12_at rfl rfl (Nat.le_of_ble_eq_true rfl) (Nat.le_of_ble_eq_true rfl) rfl (c_X12_at (d + 1) (σ := σ10) (x := r) (k := k) ) (fun r11 σ12 hp => ?_)
        obtain ⟨v13, rfl, rfl, f14⟩ := hp
        subst f14
        show Tm _ _ 167 b σ10 [(4, .int (iI g9)), (3, .int (iI k)), (2, .int (iI w)), (0, .ref b), (1, .int (iI r))] [.int (iI (220 * r + k))] _
        refine tm_istore (L' := [(4, .int (iI (220 * r + k))), (3, .int (iI k)), (2, .int (iI w)), (0, .ref b), (1, .int (iI r))]) dX12_unbind_167 (by decide) rfl ?_
        refine tm_aload_n dX12_unbind_169 rfl 3 rfl ?_
        refine tm_get (k := 3) (v := .ref (b + 1 + 1)) lay_12 dX12_unbind_170 (by decide) fl12_13 rfl ?_
        refine tm_iload dX12_unbind_173 0 rfl ?_
        refine tm_iald (z := 220 * r + k) (v := σ0.2.1 3 (220 * r + k)) dX12_unbind_175 (show mT[1]? = some (3, 0, 2860) from rfl) (by omega) (by omega) (by decide) (ra_F F7 (by decide) (ra_F hF (by decide) (rfl))) ?_
        have g15 := RG.a hR0 3 (220 * r + k)
        refine tm_callS (M := m_X12_unbind) (pc := 176) (ix := 192) (M' := m_X12_writes) (As := [.int (iI (σ0.2.1 3 (220 * r + k)))]) (rest := []) dX12_unbind_176 ok_X12_writes stt_X12_writes ml12_192 np_X12_writes rfl (Nat.le_of_ble_eq_true rfl) (Nat.le_of_ble_eq_true rfl) rfl (c_X12_writes (d + 1) (σ := σ10) (x := σ0.2.1 3 (220 * r + k)) (by omega)) (fun r16 σ17 hp => ?_)
        obtain ⟨v18, rfl, rfl, f19, f20⟩ := hp
        show Tm _ _ 179 b σ10 [(4, .int (iI (220 * r + k))), (3, .int (iI k)), (2, .int (iI w)), (0, .ref b), (1, .int (iI r))] [.int (iI v18)] _
        refine tm_if_eq (tgt := 206) dX12_unbind_179 (by decide) ⟨by omega, by omega⟩ (fun h21 => ?_) (fun h21 => ?_)
        · refine tm_iconst dX12_unbind_206 ?_
          refine tm_istore (L' := [(5, .int (iI 0)), (4, .int (iI (220 * r + k))), (3, .int (iI k)), (2, .int (iI w)), (0, .ref b), (1, .int (iI r))]) dX12_unbind_207 (by decide) rfl ?_
          refine tm_sub [0, 2, 3, 4, 5] rfl (l_unb7 (d) (σ0 := σ10) (r := r) (k := k) (F := F) (m := m) (C0 := C0) hr R8 (hit.fr (show Fr [] [47, 65, 66] [] σ0 σ10 from ((Fr.rfl.trans (Fr.sub hF (by decide) (by decide) (by decide))).trans (Fr.sub F7 (by decide) (by decide) (by decide)))) (by decide)) (hok.fr (show Fr [] [47, 65, 66] [] σ0 σ10 from ((Fr.rfl.trans (Fr.sub hF (by decide) (by decide) (by decide))).trans (Fr.sub F7 (by decide) (by decide) (by decide)))) (by decide)) (htg.fr (show Fr [] [47, 65, 66] [] σ0 σ10 from ((Fr.rfl.trans (Fr.sub hF (by decide) (by decide) (by decide))).trans (Fr.sub F7 (by decide) (by decide) (by decide)))) (by decide)) (hnu.fr (show Fr [] [47, 65, 66] [] σ0 σ10 from ((Fr.rfl.trans (Fr.sub hF (by decide) (by decide) (by decide))).trans (Fr.sub F7 (by decide) (by decide) (by decide)))) (by decide)) (by rw [((show Fr [] [47, 65, 66] [] σ0 σ10 from ((Fr.rfl.trans (Fr.sub hF (by decide) (by decide) (by decide))).trans (Fr.sub F7 (by decide) (by decide) (by decide))))).2.1 9 (by decide)]; omega) (by omega) (fun w30 i31 σ32 F25 R26 f27 f28 f29 => ?_) _ (w) (0) σ10 Fr.rfl R8 (by omega) (hbo.fr (show Fr [] [66] [] σ σ10 from (Fr.rfl.trans (Fr.sub F7 (by decide) (by decide) (by decide)))) (by decide)) (by rw [((show Fr [] [66] [] σ σ10 from (Fr.rfl.trans (Fr.sub F7 (by decide) (by decide) (by decide))))).2.1 47 (by decide), ((show Fr [] [66] [] σ σ10 from (Fr.rfl.trans (Fr.sub F7 (by decide) (by decide) (by decide))))).2.1 65 (by decide)]; omega) rfl)
          show Tm _ _ 254 b σ32 [(5, .int (iI i31)), (3, .int (iI k)), (2, .int (iI w30)), (0, .ref b), (1, .int (iI r))] [] _
          refine tm_iinc (q0 := 1) (L' := [(3, .int (iI (k + 1))), (5, .int (iI i31)), (2, .int (iI w30)), (0, .ref b), (1, .int (iI r))]) dX12_unbind_254 rfl (by decide) rfl ?_
          refine tm_goto (tgt := 102) dX12_unbind_257 (by decide) ?_
          exact tm_sub [0, 2, 3, 4] rfl (ih _ (by omega) (w30) (k + 1) σ32 (((Fr.rfl.trans (Fr.sub hF (by decide) (by decide) (by decide))).trans (Fr.sub F7 (by decide) (by decide) (by decide))).trans (Fr.sub F25 (by decide) (by decide) (by decide))) R26 (by omega) (by assumption) (by omega) rfl)
        · have q6 := hok.dest (k := k) (by omega) (by omega) (by omega)
          refine tm_aload_n dX12_unbind_182 rfl 3 rfl ?_
          refine tm_get (k := 66) (v := .ref (b + 1 + 43)) lay_12 dX12_unbind_183 (by decide) fl12_149 rfl ?_
          refine tm_aload_n dX12_unbind_186 rfl 3 rfl ?_
          refine tm_get (k := 64) (v := .ref (b + 1 + 41)) lay_12 dX12_unbind_187 (by decide) fl12_143 rfl ?_
          refine tm_aload_n dX12_unbind_190 rfl 3 rfl ?_
          refine tm_get (k := 4) (v := .ref (b + 1 + 2)) lay_12 dX12_unbind_191 (by decide) fl12_17 rfl ?_
          refine tm_iload dX12_unbind_194 0 rfl ?_
          refine tm_iald (z := 220 * r + k) (v := σ0.2.1 4 (220 * r + k)) dX12_unbind_196 (show mT[2]? = some (4, 0, 2860) from rfl) (by omega) (by omega) (by decide) (ra_F F7 (by decide) (ra_F hF (by decide) (rfl))) ?_
          have g33 := RG.a hR0 4 (220 * r + k)
          refine tm_iald (z := σ0.2.1 4 (220 * r + k)) (v := σ0.2.1 64 (σ0.2.1 4 (220 * r + k))) dX12_unbind_197 (show mT[41]? = some (64, 0, 192) from rfl) (by omega) (by omega) (by decide) (ra_F F7 (by decide) (ra_F hF (by decide) (rfl))) ?_
          have g34 := RG.a hR0 64 (σ0.2.1 4 (220 * r + k))
          have := hnu (σ0.2.1 4 (220 * r + k)) (by omega) (by omega)
          refine tm_aload_n dX12_unbind_198 rfl 3 rfl ?_
          refine tm_get (k := 4) (v := .ref (b + 1 + 2)) lay_12 dX12_unbind_199 (by decide) fl12_17 rfl ?_
          refine tm_iload dX12_unbind_202 0 rfl ?_
          refine tm_iald (z := 220 * r + k) (v := σ0.2.1 4 (220 * r + k)) dX12_unbind_204 (show mT[2]? = some (4, 0, 2860) from rfl) (by omega) (by omega) (by decide) (ra_F F7 (by decide) (ra_F hF (by decide) (rfl))) ?_
          have g35 := RG.a hR0 4 (220 * r + k)
          refine tm_iast (z := σ0.2.1 64 (σ0.2.1 4 (220 * r + k))) (v := σ0.2.1 4 (220 * r + k)) dX12_unbind_205 (show mT[43]? = some (66, 0, 192) from rfl) (by omega) (by omega) (by decide) ?_
          refine tm_iconst dX12_unbind_206 ?_
          refine tm_istore (L' := [(5, .int (iI 0)), (4, .int (iI (220 * r + k))), (3, .int (iI k)), (2, .int (iI w)), (0, .ref b), (1, .int (iI r))]) dX12_unbind_207 (by decide) rfl ?_
          refine tm_sub [0, 2, 3, 4, 5] rfl (l_unb7 (d) (σ0 := (sA 66 (σ0.2.1 64 (σ0.2.1 4 (220 * r + k))) (σ0.2.1 4 (220 * r + k)) σ10)) (r := r) (k := k) (F := F) (m := m) (C0 := C0) hr (R8.A (by omega)) (hit.fr (show Fr [] [47, 65, 66] [] σ0 (sA 66 (σ0.2.1 64 (σ0.2.1 4 (220 * r + k))) (σ0.2.1 4 (220 * r + k)) σ10) from (((Fr.rfl.trans (Fr.sub hF (by decide) (by decide) (by decide))).trans (Fr.sub F7 (by decide) (by decide) (by decide))).A (by decide))) (by decide)) (hok.fr (show Fr [] [47, 65, 66] [] σ0 (sA 66 (σ0.2.1 64 (σ0.2.1 4 (220 * r + k))) (σ0.2.1 4 (220 * r + k)) σ10) from (((Fr.rfl.trans (Fr.sub hF (by decide) (by decide) (by decide))).trans (Fr.sub F7 (by decide) (by decide) (by decide))).A (by decide))) (by decide)) (htg.fr (show Fr [] [47, 65, 66] [] σ0 (sA 66 (σ0.2.1 64 (σ0.2.1 4 (220 * r + k))) (σ0.2.1 4 (220 * r + k)) σ10) from (((Fr.rfl.trans (Fr.sub hF (by decide) (by decide) (by decide))).trans (Fr.sub F7 (by decide) (by decide) (by decide))).A (by decide))) (by decide)) (hnu.fr (show Fr [] [47, 65, 66] [] σ0 (sA 66 (σ0.2.1 64 (σ0.2.1 4 (220 * r + k))) (σ0.2.1 4 (220 * r + k)) σ10) from (((Fr.rfl.trans (Fr.sub hF (by decide) (by decide) (by decide))).trans (Fr.sub F7 (by decide) (by decide) (by decide))).A (by decide))) (by decide)) (by rw [((show Fr [] [47, 65, 66] [] σ0 (sA 66 (σ0.2.1 64 (σ0.2.1 4 (220 * r + k))) (σ0.2.1 4 (220 * r + k)) σ10) from (((Fr.rfl.trans (Fr.sub hF (by decide) (by decide) (by decide))).trans (Fr.sub F7 (by decide) (by decide) (by decide))).A (by decide)))).2.1 9 (by decide)]; omega) (by omega) (fun w44 i45 σ46 F39 R40 f41 f42 f43 => ?_) _ (w) (0) (sA 66 (σ0.2.1 64 (σ0.2.1 4 (220 * r + k))) (σ0.2.1 4 (220 * r + k)) σ10) Fr.rfl (R8.A (by omega)) (by omega) (hbo.fr (show Fr [] [66] [] σ (sA 66 (σ0.2.1 64 (σ0.2.1 4 (220 * r + k))) (σ0.2.1 4 (220 * r + k)) σ10) from ((Fr.rfl.trans (Fr.sub F7 (by decide) (by decide) (by decide))).A (by decide))) (by decide)) (by rw [((show Fr [] [66] [] σ (sA 66 (σ0.2.1 64 (σ0.2.1 4 (220 * r + k))) (σ0.2.1 4 (220 * r + k)) σ10) from ((Fr.rfl.trans (Fr.sub F7 (by decide) (by decide) (by decide))).A (by decide)))).2.1 47 (by decide), ((show Fr [] [66] [] σ (sA 66 (σ0.2.1 64 (σ0.2.1 4 (220 * r + k))) (σ0.2.1 4 (220 * r + k)) σ10) from ((Fr.rfl.trans (Fr.sub F7 (by decide) (by decide) (by decide))).A (by decide)))).2.1 65 (by decide)]; omega) rfl)
          show Tm _ _ 254 b σ46 [(5, .int (iI i45)), (3, .int (iI k)), (2, .int (iI w44)), (0, .ref b), (1, .int (iI r))] [] _
          refine tm_iinc (q0 := 1) (L' := [(3, .int (iI (k + 1))), (5, .int (iI i45)), (2, .int (iI w44)), (0, .ref b), (1, .int (iI r))]) dX12_unbind_254 rfl (by decide) rfl ?_
          refine tm_goto (tgt := 102) dX12_unbind_257 (by decide) ?_
          exact tm_sub [0, 2, 3, 4] rfl (ih _ (by omega) (w44) (k + 1) σ46 ((((Fr.rfl.trans (Fr.sub hF (by decide) (by decide) (by decide))).trans (Fr.sub F7 (by decide) (by decide) (by decide))).A (by decide)).trans (Fr.sub F39 (by decide) (by decide) (by decide))) R40 (by omega) (by assumption) (by omega) rfl)
      · refine tm_goto (tgt := 254) dX12_unbind_121 (by decide) ?_
        refine tm_iinc (q0 := 0) (L' := [(3, .int (iI (k + 1))), (2, .int (iI w)), (0, .ref b), (1, .int (iI r))]) dX12_unbind_254 rfl (by decide) rfl ?_
        refine tm_goto (tgt := 102) dX12_unbind_257 (by decide) ?_
        exact tm_sub [0, 1, 2, 3] rfl (ih _ (by omega) (w) (k + 1) σ (Fr.rfl.trans (Fr.sub hF (by decide) (by decide) (by decide))) hR (by omega) (by assumption) (by omega) rfl)
theorem dX12_unbind_94 : decode cX12_unbind 94 = .ok (.iload_n 2, 1) := by decide +kernel
theorem dX12_unbind_95 : decode cX12_unbind 95 = .ok (.ifCond .eq 168, 3) := by decide +kernel
theorem dX12_unbind_98 : decode cX12_unbind 98 = .ok (.iconst 0, 1) := by decide +kernel
theorem dX12_unbind_99 : decode cX12_unbind 99 = .ok (.istore_n 2, 1) := by decide +kernel
theorem dX12_unbind_100 : decode cX12_unbind 100 = .ok (.iconst 0, 1) := by decide +kernel
theorem dX12_unbind_101 : decode cX12_unbind 101 = .ok (.istore_n 3, 1) := by decide +kernel
theorem dX12_unbind_260 : decode cX12_unbind 260 = .ok (.goto (-166), 3) := by decide +kernel
set_option maxHeartbeats 4000000 in
set_option maxRecDepth 20000 in
theorem l_unb4 (d : Nat) {b : Nat} {σ0 : MS} {r : Int} {F : Int} {m : Int} {post : Option Value → MS → Prop} (hr : 0 ≤ r ∧ r < 6) (hR0 : RG σ0) (hit : ITM σ0) (hok : OKS σ0 F r) (htg : TGT σ0 r) (hnu : NUM σ0) (hm : m = σ0.2.1 9 r) (hx_263 : ∀ (w : Int) (σ : MS) , (Fr [] [47, 65, 66] [] σ0 σ) → (RG σ) → (BO 47 σ) → Tm (d + 3) m_X12_unbind 263 b σ [(2, .int (iI w)), (0, .ref b), (1, .int (iI r))] [] post) : ∀ (n : Nat) (w : Int) (σ : MS) , (Fr [] [47, 65, 66] [] σ0 σ) → (RG σ) → (w = 0 ∨ w = 1) → (BO 47 σ) → (193 * (cz (σ.2.1 47) 221 : Int) + (cr (σ.2.1 47) (σ.2.1 65) 221 : Int) + w).toNat = n → Tm (d + 3) m_X12_unbind 94 b σ [(2, .int (iI w)), (0, .ref b), (1, .int (iI r))] [] post := by
  intro n
  induction n using Nat.strongRecOn with
  | _ n ih =>
    intro w σ hF hR h0 hbo hm
    have hit1 := hit.fr hF (by decide)
    have hok1 := hok.fr hF (by decide)
    have htg1 := htg.fr hF (by decide)
    have hnu1 := hnu.fr hF (by decide)
    have q1 := hit r (by omega) (by omega)
    have q9 : σ.2.1 9 r = σ0.2.1 9 r := by rw [hF.2.1 9 (by decide)]
    refine tm_iload_n dX12_unbind_94 rfl 0 rfl ?_
    refine tm_if_eq (tgt := 263) dX12_unbind_95 (by decide) ⟨by omega, by omega⟩ (fun h1 => ?_) (fun h1 => ?_)
    · exact tm_sub [0, 1, 2] rfl (hx_263 (w) σ (Fr.rfl.trans (Fr.sub hF (by decide) (by decide) (by decide))) hR hbo)
    · refine tm_iconst dX12_unbind_98 ?_
      refine tm_istore_n (L' := [(2, .int (iI 0)), (0, .ref b), (1, .int (iI r))]) dX12_unbind_99 rfl (by decide) rfl ?_
      refine tm_iconst dX12_unbind_100 ?_
      refine tm_istore_n (L' := [(3, .int (iI 0)), (2, .int (iI 0)), (0, .ref b), (1, .int (iI r))]) dX12_unbind_101 rfl (by decide) rfl ?_
      refine tm_sub [0, 1, 2, 3] rfl (l_unb5 (d) (σ0 := σ) (r := r) (F := F) (m := m) (C0 := (193 * (cz (σ.2.1 47) 221 : Int) + (cr (σ.2.1 47) (σ.2.1 65) 221 : Int))) hr hR hit1 hok1 htg1 hnu1 (by omega) (fun w10 k11 σ12 F5 R6 f7 f8 f9 => ?_) _ (0) (0) σ Fr.rfl hR (by omega) hbo (by omega) rfl)
      show Tm _ _ 260 b σ12 [(3, .int (iI k11)), (2, .int (iI w10)), (0, .ref b), (1, .int (iI r))] [] _
      refine tm_goto (tgt := 94) dX12_unbind_260 (by decide) ?_
      exact tm_sub [1, 2, 3] rfl (ih _ (by omega) (w10) σ12 ((Fr.rfl.trans (Fr.sub hF (by decide) (by decide) (by decide))).trans (Fr.sub F5 (by decide) (by decide) (by decide))) R6 (by omega) (by assumption) rfl)
end
section
def XO (r : Int) (σ τ : MS) : Prop := (∀ y, (y < 220 * r ∨ 220 * r + 220 ≤ y) → τ.2.1 3 y = σ.2.1 3 y ∧ τ.2.1 4 y = σ.2.1 4 y ∧ τ.2.1 5 y = σ.2.1 5 y ∧ τ.2.1 6 y = σ.2.1 6 y) ∧ (∀ z, (z < 880 * r ∨ 880 * r + 880 ≤ z) → τ.2.1 7 z = σ.2.1 7 z ∧ τ.2.1 8 z = σ.2.1 8 z)
theorem XO.rfl {r : Int} {σ : MS} : XO r σ σ := ⟨fun _ _ => ⟨Eq.refl _, Eq.refl _, Eq.refl _, Eq.refl _⟩, fun _ _ => ⟨Eq.refl _, Eq.refl _⟩⟩
theorem XO.trans {r : Int} {σ τ υ : MS} (h : XO r σ τ) (g : XO r τ υ) : XO r σ υ := ⟨fun y hy => ⟨((g.1 y hy).1).trans (h.1 y hy).1, ((g.1 y hy).2.1).trans (h.1 y hy).2.1, ((g.1 y hy).2.2.1).trans (h.1 y hy).2.2.1, ((g.1 y hy).2.2.2).trans (h.1 y hy).2.2.2⟩, fun z hz => ⟨((g.2 z hz).1).trans (h.2 z hz).1, ((g.2 z hz).2).trans (h.2 z hz).2⟩⟩
theorem XO.fr {r : Int} {ss ks js : List Nat} {σ τ : MS} (f : Fr ss ks js σ τ) (h : ∀ k ∈ [3, 4, 5, 6, 7, 8], k ∉ ks) : XO r σ τ := ⟨fun y _ => by rw [f.q h (k := 3) (by decide), f.q h (k := 4) (by decide), f.q h (k := 5) (by decide), f.q h (k := 6) (by decide)]; exact ⟨Eq.refl _, Eq.refl _, Eq.refl _, Eq.refl _⟩, fun z _ => by rw [f.q h (k := 7) (by decide), f.q h (k := 8) (by decide)]; exact ⟨Eq.refl _, Eq.refl _⟩⟩
theorem OFF.xo {r k : Int} {σ τ : MS} (h : OFF (220 * r + k) σ τ) (h0 : 0 ≤ k) (h1 : k < 220) : XO r σ τ := ⟨fun y hy => h.1 y (by omega), fun z hz => h.2.1 z (by omega)⟩
theorem RG.arg {σ : MS} (h : RG σ) {x i k v : Int} (h1 : -2147483648 ≤ k ∧ k ≤ 2147483647) (h2 : -2147483648 ≤ v ∧ v ≤ 2147483647) : RG (fArg x i k v σ) := (h.A h1).A h2

theorem dX12_unbind_313 : decode cX12_unbind 313 = .ok (.iload 6, 2) := by decide +kernel
theorem dX12_unbind_315 : decode cX12_unbind 315 = .ok (.aload_n 0, 1) := by decide +kernel
theorem dX12_unbind_316 : decode cX12_unbind 316 = .ok (.iload 4, 2) := by decide +kernel
theorem dX12_unbind_318 : decode cX12_unbind 318 = .ok (.invokevirtual 199, 3) := by decide +kernel
theorem dX12_unbind_321 : decode cX12_unbind 321 = .ok (.if_icmp .ge 80, 3) := by decide +kernel
theorem dX12_unbind_324 : decode cX12_unbind 324 = .ok (.iload 5, 2) := by decide +kernel
theorem dX12_unbind_326 : decode cX12_unbind 326 = .ok (.ifCond .eq 66, 3) := by decide +kernel
theorem dX12_unbind_392 : decode cX12_unbind 392 = .ok (.iconst 0, 1) := by decide +kernel
theorem dX12_unbind_393 : decode cX12_unbind 393 = .ok (.istore 5, 2) := by decide +kernel
theorem dX12_unbind_395 : decode cX12_unbind 395 = .ok (.iinc 6 1, 3) := by decide +kernel
theorem dX12_unbind_398 : decode cX12_unbind 398 = .ok (.goto (-85), 3) := by decide +kernel
theorem dX12_unbind_329 : decode cX12_unbind 329 = .ok (.aload_n 0, 1) := by decide +kernel
theorem dX12_unbind_330 : decode cX12_unbind 330 = .ok (.getfield 26, 3) := by decide +kernel
theorem dX12_unbind_333 : decode cX12_unbind 333 = .ok (.iconst 4, 1) := by decide +kernel
theorem dX12_unbind_334 : decode cX12_unbind 334 = .ok (.iload 4, 2) := by decide +kernel
theorem dX12_unbind_336 : decode cX12_unbind 336 = .ok (.imul, 1) := by decide +kernel
theorem dX12_unbind_337 : decode cX12_unbind 337 = .ok (.iload 6, 2) := by decide +kernel
theorem dX12_unbind_339 : decode cX12_unbind 339 = .ok (.iadd, 1) := by decide +kernel
theorem dX12_unbind_340 : decode cX12_unbind 340 = .ok (.iaload, 1) := by decide +kernel
theorem dX12_unbind_341 : decode cX12_unbind 341 = .ok (.iconst 2, 1) := by decide +kernel
theorem dX12_unbind_342 : decode cX12_unbind 342 = .ok (.if_icmp .ne 46, 3) := by decide +kernel
theorem dX12_unbind_388 : decode cX12_unbind 388 = .ok (.iconst 1, 1) := by decide +kernel
theorem dX12_unbind_389 : decode cX12_unbind 389 = .ok (.goto 4, 3) := by decide +kernel
theorem dX12_unbind_345 : decode cX12_unbind 345 = .ok (.aload_n 0, 1) := by decide +kernel
theorem dX12_unbind_346 : decode cX12_unbind 346 = .ok (.getfield 146, 3) := by decide +kernel
theorem dX12_unbind_349 : decode cX12_unbind 349 = .ok (.sipush 192, 3) := by decide +kernel
theorem dX12_unbind_352 : decode cX12_unbind 352 = .ok (.iload_n 3, 1) := by decide +kernel
theorem dX12_unbind_353 : decode cX12_unbind 353 = .ok (.imul, 1) := by decide +kernel
theorem dX12_unbind_354 : decode cX12_unbind 354 = .ok (.aload_n 0, 1) := by decide +kernel
theorem dX12_unbind_355 : decode cX12_unbind 355 = .ok (.getfield 143, 3) := by decide +kernel
theorem dX12_unbind_358 : decode cX12_unbind 358 = .ok (.aload_n 0, 1) := by decide +kernel
theorem dX12_unbind_359 : decode cX12_unbind 359 = .ok (.getfield 29, 3) := by decide +kernel
theorem dX12_unbind_362 : decode cX12_unbind 362 = .ok (.iconst 4, 1) := by decide +kernel
theorem dX12_unbind_363 : decode cX12_unbind 363 = .ok (.iload 4, 2) := by decide +kernel
theorem dX12_unbind_365 : decode cX12_unbind 365 = .ok (.imul, 1) := by decide +kernel
theorem dX12_unbind_366 : decode cX12_unbind 366 = .ok (.iload 6, 2) := by decide +kernel
theorem dX12_unbind_368 : decode cX12_unbind 368 = .ok (.iadd, 1) := by decide +kernel
theorem dX12_unbind_369 : decode cX12_unbind 369 = .ok (.iaload, 1) := by decide +kernel
theorem dX12_unbind_370 : decode cX12_unbind 370 = .ok (.iaload, 1) := by decide +kernel
theorem dX12_unbind_371 : decode cX12_unbind 371 = .ok (.iadd, 1) := by decide +kernel
theorem dX12_unbind_372 : decode cX12_unbind 372 = .ok (.iaload, 1) := by decide +kernel
theorem dX12_unbind_373 : decode cX12_unbind 373 = .ok (.aload_n 0, 1) := by decide +kernel
theorem dX12_unbind_374 : decode cX12_unbind 374 = .ok (.getfield 29, 3) := by decide +kernel
theorem dX12_unbind_377 : decode cX12_unbind 377 = .ok (.iconst 4, 1) := by decide +kernel
theorem dX12_unbind_378 : decode cX12_unbind 378 = .ok (.iload 4, 2) := by decide +kernel
theorem dX12_unbind_380 : decode cX12_unbind 380 = .ok (.imul, 1) := by decide +kernel
theorem dX12_unbind_381 : decode cX12_unbind 381 = .ok (.iload 6, 2) := by decide +kernel
theorem dX12_unbind_383 : decode cX12_unbind 383 = .ok (.iadd, 1) := by decide +kernel
theorem dX12_unbind_384 : decode cX12_unbind 384 = .ok (.iaload, 1) := by decide +kernel
theorem dX12_unbind_385 : decode cX12_unbind 385 = .ok (.if_icmp .ne 7, 3) := by decide +kernel
set_option maxHeartbeats 4000000 in
set_option maxRecDepth 20000 in
theorem l_unb9 (d : Nat) {b : Nat} {σ : MS} {r : Int} {F : Int} {k : Int} {post : Option Value → MS → Prop} (hr : 0 ≤ r ∧ r < 6) (hR : RG σ) (hit : ITM σ) (hpar : PAR σ) (hok : OKS σ F r) (hnu : NUM σ) (hk : 0 ≤ k ∧ k < σ.2.1 9 r) (hx_401 : ∀ (w : Int) (i : Int) , (w = 0 ∨ w = 1) → Tm (d + 4) m_X12_unbind 401 b σ [(6, .int (iI i)), (5, .int (iI w)), (4, .int (iI (220 * r + k))), (3, .int (iI k)), (0, .ref b), (1, .int (iI r))] [] post) : ∀ (n : Nat) (w : Int) (i : Int) , ((w = 0 ∨ w = 1) ∧ 0 ≤ i ∧ i ≤ 4) → (4 - i).toNat = n → Tm (d + 4) m_X12_unbind 313 b σ [(6, .int (iI i)), (5, .int (iI w)), (4, .int (iI (220 * r + k))), (3, .int (iI k)), (0, .ref b), (1, .int (iI r))] [] post := by
  intro n
  induction n using Nat.strongRecOn with
  | _ n ih =>
    intro w i h0 hm
    have q1 := hit r (by omega) (by omega)
    refine tm_iload dX12_unbind_313 0 rfl ?_
    refine tm_aload_n dX12_unbind_315 rfl 4 rfl ?_
    refine tm_iload dX12_unbind_316 2 rfl ?_
    refine tm_callV (M := m_X12_unbind) (pc := 318) (ix := 199) (M' := m_X12_args) (As := [.int (iI (220 * r + k))]) (rest := [.int (iI i)]) dX12_unbind_318 ok_X12_args im_X12_args se_X12_args ml12_199 np_X12_args rfl rfl (Nat.le_of_ble_eq_true rfl) (Nat.le_of_ble_eq_true rfl) rfl (c_X12_args (d) (σ := σ) (x := 220 * r + k) (by omega) hR (hok.of (by omega) (by omega)) hpar) (fun r1 σ2 hp => ?_)
    obtain ⟨v3, rfl, rfl, f4, f5⟩ := hp
    show Tm _ _ 321 b σ [(6, .int (iI i)), (5, .int (iI w)), (4, .int (iI (220 * r + k))), (3, .int (iI k)), (0, .ref b), (1, .int (iI r))] [.int (iI v3), .int (iI i)] _
    refine tm_icmp_ge (tgt := 401) dX12_unbind_321 (by decide) ⟨by omega, by omega⟩ ⟨by omega, by omega⟩ (fun h6 => ?_) (fun h6 => ?_)
    · exact tm_sub [0, 1, 2, 3, 4, 5] rfl (hx_401 (w) (i) (by omega))
    · have q2 := hok.arg (k := k) (by omega) (by omega) (i := i) (by omega) (by omega)
      refine tm_iload dX12_unbind_324 1 rfl ?_
      refine tm_if_eq (tgt := 392) dX12_unbind_326 (by decide) ⟨by omega, by omega⟩ (fun h7 => ?_) (fun h7 => ?_)
      · refine tm_iconst dX12_unbind_392 ?_
        refine tm_istore (L' := [(5, .int (iI 0)), (6, .int (iI i)), (4, .int (iI (220 * r + k))), (3, .int (iI k)), (0, .ref b), (1, .int (iI r))]) dX12_unbind_393 (by decide) rfl ?_
        refine tm_iinc (q0 := 1) (L' := [(6, .int (iI (i + 1))), (5, .int (iI 0)), (4, .int (iI (220 * r + k))), (3, .int (iI k)), (0, .ref b), (1, .int (iI r))]) dX12_unbind_395 rfl (by decide) rfl ?_
        refine tm_goto (tgt := 313) dX12_unbind_398 (by decide) ?_
        exact tm_sub [0, 1, 2, 3, 4, 5] rfl (ih _ (by omega) (0) (i + 1) (by omega) rfl)
      · refine tm_aload_n dX12_unbind_329 rfl 4 rfl ?_
        refine tm_get (k := 7) (v := .ref (b + 1 + 5)) lay_12 dX12_unbind_330 (by decide) fl12_26 rfl ?_
        refine tm_iconst dX12_unbind_333 ?_
        refine tm_iload dX12_unbind_334 2 rfl ?_
        refine tm_imul dX12_unbind_336 ?_
        refine tm_iload dX12_unbind_337 0 rfl ?_
        refine tm_iadd dX12_unbind_339 ?_
        refine tm_iald (z := (4 * (220 * r + k)) + i) (v := σ.2.1 7 ((4 * (220 * r + k)) + i)) dX12_unbind_340 (show mT[5]? = some (7, 0, 11440) from rfl) (by omega) (by omega) (by decide) (rfl) ?_
        have g8 := RG.a hR 7 ((4 * (220 * r + k)) + i)
        refine tm_iconst dX12_unbind_341 ?_
        refine tm_icmp_ne (tgt := 388) dX12_unbind_342 (by decide) ⟨by omega, by omega⟩ ⟨by decide, by decide⟩ (fun h9 => ?_) (fun h9 => ?_)
        · refine tm_iconst dX12_unbind_388 ?_
          refine tm_goto (tgt := 393) dX12_unbind_389 (by decide) ?_
          refine tm_istore (L' := [(5, .int (iI 1)), (6, .int (iI i)), (4, .int (iI (220 * r + k))), (3, .int (iI k)), (0, .ref b), (1, .int (iI r))]) dX12_unbind_393 (by decide) rfl ?_
          refine tm_iinc (q0 := 1) (L' := [(6, .int (iI (i + 1))), (5, .int (iI 1)), (4, .int (iI (220 * r + k))), (3, .int (iI k)), (0, .ref b), (1, .int (iI r))]) dX12_unbind_395 rfl (by decide) rfl ?_
          refine tm_goto (tgt := 313) dX12_unbind_398 (by decide) ?_
          exact tm_sub [0, 1, 2, 3, 4, 5] rfl (ih _ (by omega) (1) (i + 1) (by omega) rfl)
        · refine tm_aload_n dX12_unbind_345 rfl 4 rfl ?_
          refine tm_get (k := 65) (v := .ref (b + 1 + 42)) lay_12 dX12_unbind_346 (by decide) fl12_146 rfl ?_
          refine tm_sipush dX12_unbind_349 (by decide) ?_
          refine tm_iload_n dX12_unbind_352 rfl 3 rfl ?_
          refine tm_imul dX12_unbind_353 ?_
          refine tm_aload_n dX12_unbind_354 rfl 4 rfl ?_
          refine tm_get (k := 64) (v := .ref (b + 1 + 41)) lay_12 dX12_unbind_355 (by decide) fl12_143 rfl ?_
          refine tm_aload_n dX12_unbind_358 rfl 4 rfl ?_
          refine tm_get (k := 8) (v := .ref (b + 1 + 6)) lay_12 dX12_unbind_359 (by decide) fl12_29 rfl ?_
          refine tm_iconst dX12_unbind_362 ?_
          refine tm_iload dX12_unbind_363 2 rfl ?_
          refine tm_imul dX12_unbind_365 ?_
          refine tm_iload dX12_unbind_366 0 rfl ?_
          refine tm_iadd dX12_unbind_368 ?_
          refine tm_iald (z := (4 * (220 * r + k)) + i) (v := σ.2.1 8 ((4 * (220 * r + k)) + i)) dX12_unbind_369 (show mT[6]? = some (8, 0, 11440) from rfl) (by omega) (by omega) (by decide) (rfl) ?_
          have g10 := RG.a hR 8 ((4 * (220 * r + k)) + i)
          refine tm_iald (z := σ.2.1 8 ((4 * (220 * r + k)) + i)) (v := σ.2.1 64 (σ.2.1 8 ((4 * (220 * r + k)) + i))) dX12_unbind_370 (show mT[41]? = some (64, 0, 192) from rfl) (by omega) (by omega) (by decide) (rfl) ?_
          have g11 := RG.a hR 64 (σ.2.1 8 ((4 * (220 * r + k)) + i))
          have := hnu (σ.2.1 8 ((4 * (220 * r + k)) + i)) (by omega) (by omega)
          refine tm_iadd dX12_unbind_371 ?_
          refine tm_iald (z := (192 * k) + (σ.2.1 64 (σ.2.1 8 ((4 * (220 * r + k)) + i)))) (v := σ.2.1 65 ((192 * k) + (σ.2.1 64 (σ.2.1 8 ((4 * (220 * r + k)) + i))))) dX12_unbind_372 (show mT[42]? = some (65, 0, 42432) from rfl) (by omega) (by omega) (by decide) (rfl) ?_
          have g12 := RG.a hR 65 ((192 * k) + (σ.2.1 64 (σ.2.1 8 ((4 * (220 * r + k)) + i))))
          refine tm_aload_n dX12_unbind_373 rfl 4 rfl ?_
          refine tm_get (k := 8) (v := .ref (b + 1 + 6)) lay_12 dX12_unbind_374 (by decide) fl12_29 rfl ?_
          refine tm_iconst dX12_unbind_377 ?_
          refine tm_iload dX12_unbind_378 2 rfl ?_
          refine tm_imul dX12_unbind_380 ?_
          refine tm_iload dX12_unbind_381 0 rfl ?_
          refine tm_iadd dX12_unbind_383 ?_
          refine tm_iald (z := (4 * (220 * r + k)) + i) (v := σ.2.1 8 ((4 * (220 * r + k)) + i)) dX12_unbind_384 (show mT[6]? = some (8, 0, 11440) from rfl) (by omega) (by omega) (by decide) (rfl) ?_
          have g13 := RG.a hR 8 ((4 * (220 * r + k)) + i)
          refine tm_icmp_ne (tgt := 392) dX12_unbind_385 (by decide) ⟨by omega, by omega⟩ ⟨by omega, by omega⟩ (fun h14 => ?_) (fun h14 => ?_)
          · refine tm_iconst dX12_unbind_392 ?_
            refine tm_istore (L' := [(5, .int (iI 0)), (6, .int (iI i)), (4, .int (iI (220 * r + k))), (3, .int (iI k)), (0, .ref b), (1, .int (iI r))]) dX12_unbind_393 (by decide) rfl ?_
            refine tm_iinc (q0 := 1) (L' := [(6, .int (iI (i + 1))), (5, .int (iI 0)), (4, .int (iI (220 * r + k))), (3, .int (iI k)), (0, .ref b), (1, .int (iI r))]) dX12_unbind_395 rfl (by decide) rfl ?_
            refine tm_goto (tgt := 313) dX12_unbind_398 (by decide) ?_
            exact tm_sub [0, 1, 2, 3, 4, 5] rfl (ih _ (by omega) (0) (i + 1) (by omega) rfl)
          · refine tm_iconst dX12_unbind_388 ?_
            refine tm_goto (tgt := 393) dX12_unbind_389 (by decide) ?_
            refine tm_istore (L' := [(5, .int (iI 1)), (6, .int (iI i)), (4, .int (iI (220 * r + k))), (3, .int (iI k)), (0, .ref b), (1, .int (iI r))]) dX12_unbind_393 (by decide) rfl ?_
            refine tm_iinc (q0 := 1) (L' := [(6, .int (iI (i + 1))), (5, .int (iI 1)), (4, .int (iI (220 * r + k))), (3, .int (iI k)), (0, .ref b), (1, .int (iI r))]) dX12_unbind_395 rfl (by decide) rfl ?_
            refine tm_goto (tgt := 313) dX12_unbind_398 (by decide) ?_
            exact tm_sub [0, 1, 2, 3, 4, 5] rfl (ih _ (by omega) (1) (i + 1) (by omega) rfl)
theorem ml12_298 : Cond.methodLink RX12 298 yX12_setArg ∈ pWW := pw9 (List.mem_of_getElem? (i := 1) rfl) rfl
theorem dX12_unbind_265 : decode cX12_unbind 265 = .ok (.iload_n 3, 1) := by decide +kernel
theorem dX12_unbind_266 : decode cX12_unbind 266 = .ok (.aload_n 0, 1) := by decide +kernel
theorem dX12_unbind_267 : decode cX12_unbind 267 = .ok (.getfield 32, 3) := by decide +kernel
theorem dX12_unbind_270 : decode cX12_unbind 270 = .ok (.iload_n 1, 1) := by decide +kernel
theorem dX12_unbind_271 : decode cX12_unbind 271 = .ok (.iaload, 1) := by decide +kernel
theorem dX12_unbind_272 : decode cX12_unbind 272 = .ok (.if_icmp .ge 167, 3) := by decide +kernel
theorem dX12_unbind_275 : decode cX12_unbind 275 = .ok (.aload_n 0, 1) := by decide +kernel
theorem dX12_unbind_276 : decode cX12_unbind 276 = .ok (.iload_n 1, 1) := by decide +kernel
theorem dX12_unbind_277 : decode cX12_unbind 277 = .ok (.iload_n 3, 1) := by decide +kernel
theorem dX12_unbind_278 : decode cX12_unbind 278 = .ok (.invokevirtual 203, 3) := by decide +kernel
theorem dX12_unbind_281 : decode cX12_unbind 281 = .ok (.istore 4, 2) := by decide +kernel
theorem dX12_unbind_283 : decode cX12_unbind 283 = .ok (.aload_n 0, 1) := by decide +kernel
theorem dX12_unbind_284 : decode cX12_unbind 284 = .ok (.getfield 13, 3) := by decide +kernel
theorem dX12_unbind_287 : decode cX12_unbind 287 = .ok (.iload 4, 2) := by decide +kernel
theorem dX12_unbind_289 : decode cX12_unbind 289 = .ok (.iaload, 1) := by decide +kernel
theorem dX12_unbind_290 : decode cX12_unbind 290 = .ok (.bipush 12, 2) := by decide +kernel
theorem dX12_unbind_292 : decode cX12_unbind 292 = .ok (.if_icmp .ne 141, 3) := by decide +kernel
theorem dX12_unbind_433 : decode cX12_unbind 433 = .ok (.iinc 3 1, 3) := by decide +kernel
theorem dX12_unbind_436 : decode cX12_unbind 436 = .ok (.goto (-171), 3) := by decide +kernel
theorem dX12_unbind_295 : decode cX12_unbind 295 = .ok (.aload_n 0, 1) := by decide +kernel
theorem dX12_unbind_296 : decode cX12_unbind 296 = .ok (.getfield 91, 3) := by decide +kernel
theorem dX12_unbind_299 : decode cX12_unbind 299 = .ok (.iload_n 3, 1) := by decide +kernel
theorem dX12_unbind_300 : decode cX12_unbind 300 = .ok (.baload, 1) := by decide +kernel
theorem dX12_unbind_301 : decode cX12_unbind 301 = .ok (.ifCond .ne 6, 3) := by decide +kernel
theorem dX12_unbind_307 : decode cX12_unbind 307 = .ok (.iconst 1, 1) := by decide +kernel
theorem dX12_unbind_308 : decode cX12_unbind 308 = .ok (.istore 5, 2) := by decide +kernel
theorem dX12_unbind_310 : decode cX12_unbind 310 = .ok (.iconst 0, 1) := by decide +kernel
theorem dX12_unbind_311 : decode cX12_unbind 311 = .ok (.istore 6, 2) := by decide +kernel
theorem dX12_unbind_401 : decode cX12_unbind 401 = .ok (.iload 5, 2) := by decide +kernel
theorem dX12_unbind_403 : decode cX12_unbind 403 = .ok (.ifCond .ne 30, 3) := by decide +kernel
theorem dX12_unbind_406 : decode cX12_unbind 406 = .ok (.aload_n 0, 1) := by decide +kernel
theorem dX12_unbind_407 : decode cX12_unbind 407 = .ok (.getfield 23, 3) := by decide +kernel
theorem dX12_unbind_410 : decode cX12_unbind 410 = .ok (.iload 4, 2) := by decide +kernel
theorem dX12_unbind_412 : decode cX12_unbind 412 = .ok (.bipush 13, 2) := by decide +kernel
theorem dX12_unbind_414 : decode cX12_unbind 414 = .ok (.iastore, 1) := by decide +kernel
theorem dX12_unbind_415 : decode cX12_unbind 415 = .ok (.aload_n 0, 1) := by decide +kernel
theorem dX12_unbind_416 : decode cX12_unbind 416 = .ok (.iload 4, 2) := by decide +kernel
theorem dX12_unbind_418 : decode cX12_unbind 418 = .ok (.iconst 0, 1) := by decide +kernel
theorem dX12_unbind_419 : decode cX12_unbind 419 = .ok (.iconst 0, 1) := by decide +kernel
theorem dX12_unbind_420 : decode cX12_unbind 420 = .ok (.iconst 0, 1) := by decide +kernel
theorem dX12_unbind_421 : decode cX12_unbind 421 = .ok (.invokevirtual 298, 3) := by decide +kernel
theorem dX12_unbind_424 : decode cX12_unbind 424 = .ok (.aload_n 0, 1) := by decide +kernel
theorem dX12_unbind_425 : decode cX12_unbind 425 = .ok (.iload 4, 2) := by decide +kernel
theorem dX12_unbind_427 : decode cX12_unbind 427 = .ok (.iconst 1, 1) := by decide +kernel
theorem dX12_unbind_428 : decode cX12_unbind 428 = .ok (.iconst 0, 1) := by decide +kernel
theorem dX12_unbind_429 : decode cX12_unbind 429 = .ok (.iconst 0, 1) := by decide +kernel
theorem dX12_unbind_430 : decode cX12_unbind 430 = .ok (.invokevirtual 298, 3) := by decide +kernel
theorem dX12_unbind_304 : decode cX12_unbind 304 = .ok (.goto 129, 3) := by decide +kernel
set_option maxHeartbeats 4000000 in
set_option maxRecDepth 20000 in
theorem l_unb8 (d : Nat) {b : Nat} {σ0 : MS} {r : Int} {F : Int} {post : Option Value → MS → Prop} (hr : 0 ≤ r ∧ r < 6) (hR0 : RG σ0) (hit : ITM σ0) (hpar : PAR σ0) (hnu : NUM σ0) (hbo : BO 47 σ0) (hx_439 : ∀ (k : Int) (σ : MS) , (Fr [] [6, 7, 8] [] σ0 σ) → (RG σ) → (OKS σ F r) → (XO r σ0 σ) → Tm (d + 4) m_X12_unbind 439 b σ [(3, .int (iI k)), (0, .ref b), (1, .int (iI r))] [] post) : ∀ (n : Nat) (k : Int) (σ : MS) , (Fr [] [6, 7, 8] [] σ0 σ) → (RG σ) → (0 ≤ k ∧ k ≤ σ0.2.1 9 r) → (OKS σ F r) → (XO r σ0 σ) → (220 - k).toNat = n → Tm (d + 4) m_X12_unbind 265 b σ [(3, .int (iI k)), (0, .ref b), (1, .int (iI r))] [] post := by
  intro n
  induction n using Nat.strongRecOn with
  | _ n ih =>
    intro k σ hF hR h0 hok hxo hm
    have hit1 := hit.fr hF (by decide)
    have q1 := hit r (by omega) (by omega)
    have q9 : σ.2.1 9 r = σ0.2.1 9 r := by rw [hF.2.1 9 (by decide)]
    have q3 : σ.2.1 3 = σ0.2.1 3 := hF.2.1 3 (by decide)
    refine tm_iload_n dX12_unbind_265 rfl 0 rfl ?_
    refine tm_aload_n dX12_unbind_266 rfl 1 rfl ?_
    refine tm_get (k := 9) (v := .ref (b + 1 + 7)) lay_12 dX12_unbind_267 (by decide) fl12_32 rfl ?_
    refine tm_iload_n dX12_unbind_270 rfl 2 rfl ?_
    refine tm_iald (z := r) (v := σ0.2.1 9 r) dX12_unbind_271 (show mT[7]? = some (9, 0, 13) from rfl) (by omega) (by omega) (by decide) (ra_F hF (by decide) (rfl)) ?_
    have g1 := RG.a hR0 9 (r)
    refine tm_icmp_ge (tgt := 439) dX12_unbind_272 (by decide) ⟨by omega, by omega⟩ ⟨by omega, by omega⟩ (fun h2 => ?_) (fun h2 => ?_)
    · exact tm_sub [0, 1, 2] rfl (hx_439 (k) σ (Fr.rfl.trans (Fr.sub hF (by decide) (by decide) (by decide))) hR hok hxo)
    · refine tm_aload_n dX12_unbind_275 rfl 1 rfl ?_
      refine tm_iload_n dX12_unbind_276 rfl 2 rfl ?_
      refine tm_iload_n dX12_unbind_277 rfl 0 rfl ?_
      refine tm_callV (M := m_X12_unbind) (pc := 278) (ix := 203) (M' := m_X12_at) (As := [.int (iI r), .int (iI k)]) (rest := []) dX12_unbind_278 ok_X12_at im_X12_at se_X12_at ml12_203 np_X12_at rfl rfl (Nat.le_of_ble_eq_true rfl) (Nat.le_of_ble_eq_true rfl) rfl (c_X12_at (d + 2) (σ := σ) (x := r) (k := k) ) (fun r3 σ4 hp => ?_)
      obtain ⟨v5, rfl, rfl, f6⟩ := hp
      subst f6
      show Tm _ _ 281 b σ [(3, .int (iI k)), (0, .ref b), (1, .int (iI r))] [.int (iI (220 * r + k))] _
      refine tm_istore (L' := [(4, .int (iI (220 * r + k))), (3, .int (iI k)), (0, .ref b), (1, .int (iI r))]) dX12_unbind_281 (by decide) rfl ?_
      refine tm_aload_n dX12_unbind_283 rfl 2 rfl ?_
      refine tm_get (k := 3) (v := .ref (b + 1 + 1)) lay_12 dX12_unbind_284 (by decide) fl12_13 rfl ?_
      refine tm_iload dX12_unbind_287 0 rfl ?_
      refine tm_iald (z := 220 * r + k) (v := σ0.2.1 3 (220 * r + k)) dX12_unbind_289 (show mT[1]? = some (3, 0, 2860) from rfl) (by omega) (by omega) (by decide) (ra_F hF (by decide) (rfl)) ?_
      have g7 := RG.a hR0 3 (220 * r + k)
      refine tm_bipush dX12_unbind_290 (by decide) ?_
      refine tm_icmp_ne (tgt := 433) dX12_unbind_292 (by decide) ⟨by omega, by omega⟩ ⟨by decide, by decide⟩ (fun h8 => ?_) (fun h8 => ?_)
      · refine tm_iinc (q0 := 1) (L' := [(3, .int (iI (k + 1))), (4, .int (iI (220 * r + k))), (0, .ref b), (1, .int (iI r))]) dX12_unbind_433 rfl (by decide) rfl ?_
        refine tm_goto (tgt := 265) dX12_unbind_436 (by decide) ?_
        exact tm_sub [0, 2, 3] rfl (ih _ (by omega) (k + 1) σ (Fr.rfl.trans (Fr.sub hF (by decide) (by decide) (by decide))) hR (by omega) hok hxo rfl)
      · refine tm_aload_n dX12_unbind_295 rfl 2 rfl ?_
        refine tm_get (k := 47) (v := .ref (b + 1 + 25)) lay_12 dX12_unbind_296 (by decide) fl12_91 rfl ?_
        refine tm_iload_n dX12_unbind_299 rfl 1 rfl ?_
        refine tm_zald (z := k) (v := σ0.2.1 47 k) dX12_unbind_300 (show mT[25]? = some (47, 2, 221) from rfl) (by omega) (by omega) (by decide) (ra_F hF (by decide) (rfl)) ?_
        have g9 := RG.a hR0 47 (k)
        have := hbo (k)
        refine tm_if_ne (tgt := 307) dX12_unbind_301 (by decide) ⟨by omega, by omega⟩ (fun h10 => ?_) (fun h10 => ?_)
        · refine tm_iconst dX12_unbind_307 ?_
          refine tm_istore (L' := [(5, .int (iI 1)), (4, .int (iI (220 * r + k))), (3, .int (iI k)), (0, .ref b), (1, .int (iI r))]) dX12_unbind_308 (by decide) rfl ?_
          refine tm_iconst dX12_unbind_310 ?_
          refine tm_istore (L' := [(6, .int (iI 0)), (5, .int (iI 1)), (4, .int (iI (220 * r + k))), (3, .int (iI k)), (0, .ref b), (1, .int (iI r))]) dX12_unbind_311 (by decide) rfl ?_
          refine tm_sub [0, 1, 2, 3, 4, 5] rfl (l_unb9 (d) (σ := σ) (r := r) (k := k) (F := F) hr hR hit1 (hpar.fr hF (by decide)) hok (hnu.fr hF (by decide)) (by omega) (fun w16 i17 f15 => ?_) _ (1) (0) (by omega) rfl)
          show Tm _ _ 401 b σ [(6, .int (iI i17)), (5, .int (iI w16)), (4, .int (iI (220 * r + k))), (3, .int (iI k)), (0, .ref b), (1, .int (iI r))] [] _
          refine tm_iload dX12_unbind_401 1 rfl ?_
          refine tm_if_ne (tgt := 433) dX12_unbind_403 (by decide) ⟨by omega, by omega⟩ (fun h18 => ?_) (fun h18 => ?_)
          · refine tm_iinc (q0 := 3) (L' := [(3, .int (iI (k + 1))), (6, .int (iI i17)), (5, .int (iI w16)), (4, .int (iI (220 * r + k))), (0, .ref b), (1, .int (iI r))]) dX12_unbind_433 rfl (by decide) rfl ?_
            refine tm_goto (tgt := 265) dX12_unbind_436 (by decide) ?_
            exact tm_sub [0, 4, 5] rfl (ih _ (by omega) (k + 1) σ (Fr.rfl.trans (Fr.sub hF (by decide) (by decide) (by decide))) hR (by omega) hok hxo rfl)
          · refine tm_aload_n dX12_unbind_406 rfl 4 rfl ?_
            refine tm_get (k := 6) (v := .ref (b + 1 + 4)) lay_12 dX12_unbind_407 (by decide) fl12_23 rfl ?_
            refine tm_iload dX12_unbind_410 2 rfl ?_
            refine tm_bipush dX12_unbind_412 (by decide) ?_
            refine tm_iast (z := 220 * r + k) (v := 13) dX12_unbind_414 (show mT[4]? = some (6, 0, 2860) from rfl) (by omega) (by omega) (by decide) ?_
            refine tm_aload_n dX12_unbind_415 rfl 4 rfl ?_
            refine tm_iload dX12_unbind_416 2 rfl ?_
            refine tm_iconst dX12_unbind_418 ?_
            refine tm_iconst dX12_unbind_419 ?_
            refine tm_iconst dX12_unbind_420 ?_
            refine tm_callV (M := m_X12_unbind) (pc := 421) (ix := 298) (M' := m_X12_setArg) (As := [.int (iI (220 * r + k)), .int (iI 0), .int (iI 0), .int (iI 0)]) (rest := []) dX12_unbind_421 ok_X12_setArg im_X12_setArg se_X12_setArg ml12_298 np_X12_setArg rfl rfl (Nat.le_of_ble_eq_true rfl) (Nat.le_of_ble_eq_true rfl) rfl (c_X12_setArg (d + 2) (σ := (sA 6 (220 * r + k) (13) σ)) (x := 220 * r + k) (i := 0) (k := 0) (w := 0) (by omega)) (fun r19 σ20 hp => ?_)
            obtain ⟨rfl, f22⟩ := hp
            subst f22
            show Tm _ _ 424 b (fArg (220 * r + k) (0) (0) (0) (sA 6 (220 * r + k) (13) σ)) [(6, .int (iI i17)), (5, .int (iI w16)), (4, .int (iI (220 * r + k))), (3, .int (iI k)), (0, .ref b), (1, .int (iI r))] [] _
            refine tm_aload_n dX12_unbind_424 rfl 4 rfl ?_
            refine tm_iload dX12_unbind_425 2 rfl ?_
            refine tm_iconst dX12_unbind_427 ?_
            refine tm_iconst dX12_unbind_428 ?_
            refine tm_iconst dX12_unbind_429 ?_
            refine tm_callV (M := m_X12_unbind) (pc := 430) (ix := 298) (M' := m_X12_setArg) (As := [.int (iI (220 * r + k)), .int (iI 1), .int (iI 0), .int (iI 0)]) (rest := []) dX12_unbind_430 ok_X12_setArg im_X12_setArg se_X12_setArg ml12_298 np_X12_setArg rfl rfl (Nat.le_of_ble_eq_true rfl) (Nat.le_of_ble_eq_true rfl) rfl (c_X12_setArg (d + 2) (σ := (fArg (220 * r + k) (0) (0) (0) (sA 6 (220 * r + k) (13) σ))) (x := 220 * r + k) (i := 1) (k := 0) (w := 0) (by omega)) (fun r23 σ24 hp => ?_)
            obtain ⟨rfl, f26⟩ := hp
            subst f26
            show Tm _ _ 433 b (fArg (220 * r + k) (1) (0) (0) (fArg (220 * r + k) (0) (0) (0) (sA 6 (220 * r + k) (13) σ))) [(6, .int (iI i17)), (5, .int (iI w16)), (4, .int (iI (220 * r + k))), (3, .int (iI k)), (0, .ref b), (1, .int (iI r))] [] _
            refine tm_iinc (q0 := 3) (L' := [(3, .int (iI (k + 1))), (6, .int (iI i17)), (5, .int (iI w16)), (4, .int (iI (220 * r + k))), (0, .ref b), (1, .int (iI r))]) dX12_unbind_433 rfl (by decide) rfl ?_
            refine tm_goto (tgt := 265) dX12_unbind_436 (by decide) ?_
            exact tm_sub [0, 4, 5] rfl (ih _ (by omega) (k + 1) (fArg (220 * r + k) (1) (0) (0) (fArg (220 * r + k) (0) (0) (0) (sA 6 (220 * r + k) (13) σ))) ((((Fr.rfl.trans (Fr.sub hF (by decide) (by decide) (by decide))).A (by decide)).trans (Fr.sub fArg_fr (by decide) (by decide) (by decide))).trans (Fr.sub fArg_fr (by decide) (by decide) (by decide))) (((hR.A (by omega)).arg (by decide) (by decide)).arg (by decide) (by decide)) (by omega) (fGone_off.oks hok (fGone_oki (hok k (by omega) (by omega)) (by rw [q3]; assumption) (by decide))) (hxo.trans (fGone_off.xo (by omega) (by omega))) rfl)
        · refine tm_goto (tgt := 433) dX12_unbind_304 (by decide) ?_
          refine tm_iinc (q0 := 1) (L' := [(3, .int (iI (k + 1))), (4, .int (iI (220 * r + k))), (0, .ref b), (1, .int (iI r))]) dX12_unbind_433 rfl (by decide) rfl ?_
          refine tm_goto (tgt := 265) dX12_unbind_436 (by decide) ?_
          exact tm_sub [0, 2, 3] rfl (ih _ (by omega) (k + 1) σ (Fr.rfl.trans (Fr.sub hF (by decide) (by decide) (by decide))) hR (by omega) hok hxo rfl)
theorem dX12_unbind_0 : decode cX12_unbind 0 = .ok (.aload_n 0, 1) := by decide +kernel
theorem dX12_unbind_1 : decode cX12_unbind 1 = .ok (.iload_n 1, 1) := by decide +kernel
theorem dX12_unbind_2 : decode cX12_unbind 2 = .ok (.invokevirtual 420, 3) := by decide +kernel
theorem dX12_unbind_5 : decode cX12_unbind 5 = .ok (.iconst 0, 1) := by decide +kernel
theorem dX12_unbind_6 : decode cX12_unbind 6 = .ok (.istore_n 2, 1) := by decide +kernel
theorem dX12_unbind_30 : decode cX12_unbind 30 = .ok (.iconst 0, 1) := by decide +kernel
theorem dX12_unbind_31 : decode cX12_unbind 31 = .ok (.istore_n 2, 1) := by decide +kernel
theorem dX12_unbind_52 : decode cX12_unbind 52 = .ok (.iconst 0, 1) := by decide +kernel
theorem dX12_unbind_53 : decode cX12_unbind 53 = .ok (.istore_n 2, 1) := by decide +kernel
theorem dX12_unbind_88 : decode cX12_unbind 88 = .ok (.aload_n 0, 1) := by decide +kernel
theorem dX12_unbind_89 : decode cX12_unbind 89 = .ok (.iconst 0, 1) := by decide +kernel
theorem dX12_unbind_90 : decode cX12_unbind 90 = .ok (.invokevirtual 533, 3) := by decide +kernel
theorem dX12_unbind_93 : decode cX12_unbind 93 = .ok (.istore_n 2, 1) := by decide +kernel
theorem dX12_unbind_263 : decode cX12_unbind 263 = .ok (.iconst 0, 1) := by decide +kernel
theorem dX12_unbind_264 : decode cX12_unbind 264 = .ok (.istore_n 3, 1) := by decide +kernel
theorem dX12_unbind_439 : decode cX12_unbind 439 = .ok (.return_, 1) := by decide +kernel
set_option maxHeartbeats 4000000 in
set_option maxRecDepth 20000 in
theorem c_X12_unbind (d : Nat) {b : Nat} {σ : MS} {r : Int} {F : Int} (hr : 0 ≤ r ∧ r < 6) (hR : RG σ) (hit : ITM σ) (hpar : PAR σ) (hok : OKS σ F r) (hl : LAB σ) (hbo : BO 47 σ) (hbl : BO 59 σ) (hnu : NUM σ) (hlex : LEX σ r) : Tm (d + 4) m_X12_unbind 0 b σ [(0, .ref b), (1, .int (iI r))] [] (fun ro σ2 => ro = none ∧ (Fr [] [6, 7, 8, 46, 47, 65, 66] [] σ σ2) ∧ (RG σ2) ∧ (LAB σ2) ∧ (BO 47 σ2) ∧ (OKS σ2 F r) ∧ (XO r σ σ2)) := by
  have q1 := hit r (by omega) (by omega)
  refine tm_aload_n dX12_unbind_0 rfl 0 rfl ?_
  refine tm_iload_n dX12_unbind_1 rfl 1 rfl ?_
  refine tm_callV (M := m_X12_unbind) (pc := 2) (ix := 420) (M' := m_X12_findLabels) (As := [.int (iI r)]) (rest := []) dX12_unbind_2 ok_X12_findLabels im_X12_findLabels se_X12_findLabels ml12_420 np_X12_findLabels rfl rfl (Nat.le_of_ble_eq_true rfl) (Nat.le_of_ble_eq_true rfl) rfl (c_X12_findLabels (d + 1) (σ := σ) (r := r) (by omega) hR hit hok.jmp.lbr hl) (fun r1 σ2 hp => ?_)
  obtain ⟨rfl, f4, f5, f6, f7⟩ := hp
  show Tm _ _ 5 b σ2 [(0, .ref b), (1, .int (iI r))] [] _
  have htg1 := LEX.tgt hlex f7 f4
  have hlab1 := f6
  refine tm_iconst dX12_unbind_5 ?_
  refine tm_istore_n (L' := [(2, .int (iI 0)), (0, .ref b), (1, .int (iI r))]) dX12_unbind_6 rfl (by decide) rfl ?_
  refine tm_sub [0, 1, 2] rfl (l_unb1 (d + 3) (σ0 := σ2) (r := r) (by omega) f5 (by rw [((show Fr [] [46] [] σ σ2 from (Fr.rfl.trans (Fr.sub f4 (by decide) (by decide) (by decide))))).2.1 9 (by decide)]; exact q1) (fun k13 σ14 F10 R11 f12 => ?_) _ (0) σ2 Fr.rfl f5 (by omega) (hbo.fr (show Fr [] [46] [] σ σ2 from (Fr.rfl.trans (Fr.sub f4 (by decide) (by decide) (by decide)))) (by decide)) rfl)
  show Tm _ _ 30 b σ14 [(2, .int (iI k13)), (0, .ref b), (1, .int (iI r))] [] _
  have hbo1 := f12
  refine tm_iconst dX12_unbind_30 ?_
  refine tm_istore_n (L' := [(2, .int (iI 0)), (0, .ref b), (1, .int (iI r))]) dX12_unbind_31 rfl (by decide) rfl ?_
  refine tm_sub [0, 1, 2] rfl (l_unb2 (d + 3) (σ0 := σ14) (r := r) (fun g19 σ20 F17 R18 => ?_) _ (0) σ14 Fr.rfl R11 (by omega) rfl)
  show Tm _ _ 52 b σ20 [(2, .int (iI g19)), (0, .ref b), (1, .int (iI r))] [] _
  refine tm_iconst dX12_unbind_52 ?_
  refine tm_istore_n (L' := [(2, .int (iI 0)), (0, .ref b), (1, .int (iI r))]) dX12_unbind_53 rfl (by decide) rfl ?_
  refine tm_sub [0, 1, 2] rfl (l_unb3 (d + 1) (σ0 := σ20) (r := r) (by omega) R18 (hpar.fr (show Fr [] [46, 47, 66] [] σ σ20 from (((Fr.rfl.trans (Fr.sub f4 (by decide) (by decide) (by decide))).trans (Fr.sub F10 (by decide) (by decide) (by decide))).trans (Fr.sub F17 (by decide) (by decide) (by decide)))) (by decide)) (hbl.fr (show Fr [] [46, 47, 66] [] σ σ20 from (((Fr.rfl.trans (Fr.sub f4 (by decide) (by decide) (by decide))).trans (Fr.sub F10 (by decide) (by decide) (by decide))).trans (Fr.sub F17 (by decide) (by decide) (by decide)))) (by decide)) (hnu.fr (show Fr [] [46, 47, 66] [] σ σ20 from (((Fr.rfl.trans (Fr.sub f4 (by decide) (by decide) (by decide))).trans (Fr.sub F10 (by decide) (by decide) (by decide))).trans (Fr.sub F17 (by decide) (by decide) (by decide)))) (by decide)) (fun g25 σ26 F23 R24 => ?_) _ (0) σ20 Fr.rfl R18 (by omega) rfl)
  show Tm _ _ 88 b σ26 [(2, .int (iI g25)), (0, .ref b), (1, .int (iI r))] [] _
  refine tm_aload_n dX12_unbind_88 rfl 1 rfl ?_
  refine tm_iconst dX12_unbind_89 ?_
  refine tm_callV (M := m_X12_unbind) (pc := 90) (ix := 533) (M' := m_X12_comesLast) (As := [.int (iI 0)]) (rest := []) dX12_unbind_90 ok_X12_comesLast im_X12_comesLast se_X12_comesLast ml12_533 np_X12_comesLast rfl rfl (Nat.le_of_ble_eq_true rfl) (Nat.le_of_ble_eq_true rfl) rfl (c_X12_comesLast (d + 2) (σ := σ26) (to := 0) R24 ((hbo1.fr F17 (by decide)).fr F23 (by decide)) (by omega)) (fun r27 σ28 hp => ?_)
  obtain ⟨v29, rfl, f30, f31, f32, f33, f34⟩ := hp
  show Tm _ _ 93 b σ28 [(2, .int (iI g25)), (0, .ref b), (1, .int (iI r))] [.int (iI v29)] _
  have htg2 := (((htg1.fr F10 (by decide)).fr F17 (by decide)).fr F23 (by decide)).fr f31 (by decide)
  have hbo2 := f33
  refine tm_istore_n (L' := [(2, .int (iI v29)), (0, .ref b), (1, .int (iI r))]) dX12_unbind_93 rfl (by decide) rfl ?_
  refine tm_sub [0, 1, 2] rfl (l_unb4 (d + 1) (σ0 := σ28) (r := r) (F := F) (m := σ.2.1 9 r) hr f32 (hit.fr (show Fr [] [46, 47, 65, 66] [] σ σ28 from (((((Fr.rfl.trans (Fr.sub f4 (by decide) (by decide) (by decide))).trans (Fr.sub F10 (by decide) (by decide) (by decide))).trans (Fr.sub F17 (by decide) (by decide) (by decide))).trans (Fr.sub F23 (by decide) (by decide) (by decide))).trans (Fr.sub f31 (by decide) (by decide) (by decide)))) (by decide)) (hok.fr (show Fr [] [46, 47, 65, 66] [] σ σ28 from (((((Fr.rfl.trans (Fr.sub f4 (by decide) (by decide) (by decide))).trans (Fr.sub F10 (by decide) (by decide) (by decide))).trans (Fr.sub F17 (by decide) (by decide) (by decide))).trans (Fr.sub F23 (by decide) (by decide) (by decide))).trans (Fr.sub f31 (by decide) (by decide) (by decide)))) (by decide)) htg2 (hnu.fr (show Fr [] [46, 47, 65, 66] [] σ σ28 from (((((Fr.rfl.trans (Fr.sub f4 (by decide) (by decide) (by decide))).trans (Fr.sub F10 (by decide) (by decide) (by decide))).trans (Fr.sub F17 (by decide) (by decide) (by decide))).trans (Fr.sub F23 (by decide) (by decide) (by decide))).trans (Fr.sub f31 (by decide) (by decide) (by decide)))) (by decide)) (by rw [((show Fr [] [46, 47, 65, 66] [] σ σ28 from (((((Fr.rfl.trans (Fr.sub f4 (by decide) (by decide) (by decide))).trans (Fr.sub F10 (by decide) (by decide) (by decide))).trans (Fr.sub F17 (by decide) (by decide) (by decide))).trans (Fr.sub F23 (by decide) (by decide) (by decide))).trans (Fr.sub f31 (by decide) (by decide) (by decide))))).2.1 9 (by decide)]) (fun w40 σ41 F37 R38 f39 => ?_) _ (v29) σ28 Fr.rfl f32 (by omega) hbo2 rfl)
  show Tm _ _ 263 b σ41 [(2, .int (iI w40)), (0, .ref b), (1, .int (iI r))] [] _
  have hbo3 := f39
  have hok3 := hok.fr (show Fr [] [46, 47, 65, 66] [] σ σ41 from ((((((Fr.rfl.trans (Fr.sub f4 (by decide) (by decide) (by decide))).trans (Fr.sub F10 (by decide) (by decide) (by decide))).trans (Fr.sub F17 (by decide) (by decide) (by decide))).trans (Fr.sub F23 (by decide) (by decide) (by decide))).trans (Fr.sub f31 (by decide) (by decide) (by decide))).trans (Fr.sub F37 (by decide) (by decide) (by decide)))) (by decide)
  refine tm_iconst dX12_unbind_263 ?_
  refine tm_istore_n (L' := [(3, .int (iI 0)), (2, .int (iI w40)), (0, .ref b), (1, .int (iI r))]) dX12_unbind_264 rfl (by decide) rfl ?_
  refine tm_sub [0, 2, 3] rfl (l_unb8 (d) (σ0 := σ41) (r := r) (F := F) hr R38 (hit.fr (show Fr [] [46, 47, 65, 66] [] σ σ41 from ((((((Fr.rfl.trans (Fr.sub f4 (by decide) (by decide) (by decide))).trans (Fr.sub F10 (by decide) (by decide) (by decide))).trans (Fr.sub F17 (by decide) (by decide) (by decide))).trans (Fr.sub F23 (by decide) (by decide) (by decide))).trans (Fr.sub f31 (by decide) (by decide) (by decide))).trans (Fr.sub F37 (by decide) (by decide) (by decide)))) (by decide)) (hpar.fr (show Fr [] [46, 47, 65, 66] [] σ σ41 from ((((((Fr.rfl.trans (Fr.sub f4 (by decide) (by decide) (by decide))).trans (Fr.sub F10 (by decide) (by decide) (by decide))).trans (Fr.sub F17 (by decide) (by decide) (by decide))).trans (Fr.sub F23 (by decide) (by decide) (by decide))).trans (Fr.sub f31 (by decide) (by decide) (by decide))).trans (Fr.sub F37 (by decide) (by decide) (by decide)))) (by decide)) (hnu.fr (show Fr [] [46, 47, 65, 66] [] σ σ41 from ((((((Fr.rfl.trans (Fr.sub f4 (by decide) (by decide) (by decide))).trans (Fr.sub F10 (by decide) (by decide) (by decide))).trans (Fr.sub F17 (by decide) (by decide) (by decide))).trans (Fr.sub F23 (by decide) (by decide) (by decide))).trans (Fr.sub f31 (by decide) (by decide) (by decide))).trans (Fr.sub F37 (by decide) (by decide) (by decide)))) (by decide)) hbo3 (fun k48 σ49 F44 R45 f46 f47 => ?_) _ (0) σ41 Fr.rfl R38 (by rw [((show Fr [] [46, 47, 65, 66] [] σ σ41 from ((((((Fr.rfl.trans (Fr.sub f4 (by decide) (by decide) (by decide))).trans (Fr.sub F10 (by decide) (by decide) (by decide))).trans (Fr.sub F17 (by decide) (by decide) (by decide))).trans (Fr.sub F23 (by decide) (by decide) (by decide))).trans (Fr.sub f31 (by decide) (by decide) (by decide))).trans (Fr.sub F37 (by decide) (by decide) (by decide))))).2.1 9 (by decide)]; omega) hok3 XO.rfl rfl)
  show Tm _ _ 439 b σ49 [(3, .int (iI k48)), (0, .ref b), (1, .int (iI r))] [] _
  exact tm_vret rfl dX12_unbind_439 (⟨rfl, (((((((Fr.rfl.trans (Fr.sub f4 (by decide) (by decide) (by decide))).trans (Fr.sub F10 (by decide) (by decide) (by decide))).trans (Fr.sub F17 (by decide) (by decide) (by decide))).trans (Fr.sub F23 (by decide) (by decide) (by decide))).trans (Fr.sub f31 (by decide) (by decide) (by decide))).trans (Fr.sub F37 (by decide) (by decide) (by decide))).trans (Fr.sub F44 (by decide) (by decide) (by decide))), R45, LAB.fr (LAB.fr (LAB.fr (LAB.fr (LAB.fr (LAB.fr hlab1 F10 (by decide)) F17 (by decide)) F23 (by decide)) f31 (by decide)) F37 (by decide)) F44 (by decide), hbo3.fr F44 (by decide), f46, (XO.fr (show Fr [] [46, 47, 65, 66] [] σ σ41 from ((((((Fr.rfl.trans (Fr.sub f4 (by decide) (by decide) (by decide))).trans (Fr.sub F10 (by decide) (by decide) (by decide))).trans (Fr.sub F17 (by decide) (by decide) (by decide))).trans (Fr.sub F23 (by decide) (by decide) (by decide))).trans (Fr.sub f31 (by decide) (by decide) (by decide))).trans (Fr.sub F37 (by decide) (by decide) (by decide)))) (by decide)).trans f47⟩)
end
section
theorem nArgs_o {σ : MS} {k : Nat} {i v x : Int} (hk : k ≠ 3 ∧ k ≠ 5 ∧ k ≠ 6 ∧ k ≠ 11) : nArgs (sA k i v σ) x = nArgs σ x := by
  unfold nArgs
  simp only [sA, if_neg (Ne.symm hk.1), if_neg (Ne.symm hk.2.1), if_neg (Ne.symm hk.2.2.1), if_neg (Ne.symm hk.2.2.2)]
theorem oki_dest {σ : MS} {F x v : Int} (ho : OKI σ F x) (hw : σ.2.1 3 x ≤ 5 ∨ σ.2.1 3 x = 10) (hv : 0 ≤ v ∧ v < 192) : OKI (sA 4 x v σ) F x := by
  obtain ⟨o1, o2, o3, o4, o5, o6, o7, o8, o9⟩ := ho
  have e4 : (sA 4 x v σ).2.1 4 x = v := ra_eq
  unfold OKI
  rw [nArgs_o (by decide), e4]
  exact ⟨o1, fun _ => hv, fun q => by have : σ.2.1 3 x = 8 ∨ σ.2.1 3 x = 9 ∨ σ.2.1 3 x = 13 := q; omega, fun q => by have : σ.2.1 3 x = 14 ∨ σ.2.1 3 x = 15 := q; omega, fun q => by have : σ.2.1 3 x = 12 := q; omega, o6, o7, o8, o9⟩
theorem oki_arg {σ : MS} {F x i v : Int} (ho : OKI σ F x) (h0 : 0 ≤ i) (h1 : i < 4) (hv : σ.2.1 7 (4 * x + i) = 2 → 0 ≤ v ∧ v < 192) : OKI (sA 8 (4 * x + i) v σ) F x := by
  obtain ⟨o1, o2, o3, o4, o5, o6, o7, o8, o9⟩ := ho
  unfold OKI
  rw [nArgs_o (by decide)]
  refine ⟨o1, o2, o3, o4, o5, o6, o7, fun j c e => ⟨(o8 j c e).1, fun q => ⟨?_, ((o8 j c e).2 q).2⟩⟩, o9⟩
  by_cases hj : j = i
  · subst hj
    rw [show (sA 8 (4 * x + j) v σ).2.1 8 (4 * x + j) = v from ra_eq]
    exact hv q
  · rw [show (sA 8 (4 * x + i) v σ).2.1 8 (4 * x + j) = σ.2.1 8 (4 * x + j) from ra_ne (by omega) rfl]
    exact ((o8 j c e).2 q).1
theorem OFF.a8 {x i v : Int} {σ : MS} (h0 : 0 ≤ i) (h1 : i < 4) : OFF x σ (sA 8 (4 * x + i) v σ) := ⟨fun y hy => ⟨Eq.refl _, Eq.refl _, Eq.refl _, Eq.refl _⟩, fun z hz => ⟨Eq.refl _, ra_ne (by omega) (Eq.refl _)⟩, Eq.refl _, Eq.refl _⟩
theorem okf_put {σ : MS} {r y v : Int} (h : OKF σ r) (hv : 0 ≤ v ∧ v < 192) : OKF (sA 18 y v σ) r := by
  refine ⟨h.1, fun f a b => ⟨(h.2 f a b).1, fun n c e => ?_⟩⟩
  by_cases q : 144 * r + 12 * f + n = y
  · rw [q, show (sA 18 y v σ).2.1 18 y = v from ra_eq]; exact hv
  · rw [show (sA 18 y v σ).2.1 18 (144 * r + 12 * f + n) = σ.2.1 18 (144 * r + 12 * f + n) from ra_ne q rfl]; exact (h.2 f a b).2 n c e
def XN (r : Int) (σ τ : MS) : Prop := ∀ z, (z < 144 * r ∨ 144 * r + 144 ≤ z) → τ.2.1 18 z = σ.2.1 18 z
theorem XN.rfl {r : Int} {σ : MS} : XN r σ σ := fun _ _ => Eq.refl _
theorem XN.put {r y v : Int} {σ τ : MS} (h : XN r σ τ) (hy : 144 * r ≤ y ∧ y < 144 * r + 144) : XN r σ (sA 18 y v τ) := fun z hz => ra_ne (by omega) (h z hz)
def NUL (σ : MS) : Prop := ∀ g, 0 ≤ g → g < 192 → 0 ≤ σ.2.1 64 g ∧ σ.2.1 64 g ≤ g
theorem NUL.num {σ : MS} (h : NUL σ) : NUM σ := fun g a b => ⟨(h g a b).1, by have := (h g a b).2; omega⟩
theorem NUL.fr {ss ks js : List Nat} {σ τ : MS} (h : NUL σ) (f : Fr ss ks js σ τ) (hk : 64 ∉ ks) : NUL τ := fun l => by rw [f.2.1 64 hk]; exact h l
theorem NUL.A {σ : MS} (h : NUL σ) {z v : Int} (hv : 0 ≤ v ∧ v ≤ z) : NUL (sA 64 z v σ) := fun l a b => by
  by_cases e : l = z
  · subst e; rw [show (sA 64 l v σ).2.1 64 l = v from ra_eq]; exact hv
  · rw [show (sA 64 z v σ).2.1 64 l = σ.2.1 64 l from ra_ne e rfl]; exact h l a b
def DK (σ τ : MS) : Prop := ∀ x, ¬ (σ.2.1 3 x ≤ 5 ∨ σ.2.1 3 x = 10) → τ.2.1 4 x = σ.2.1 4 x
theorem DK.rfl {σ : MS} : DK σ σ := fun _ _ => Eq.refl _
theorem DK.t {ss ks js : List Nat} {σ τ υ : MS} (h : DK σ τ) (f : Fr ss ks js τ υ) (hk : 4 ∉ ks) : DK σ υ := fun x q => by rw [f.2.1 4 hk]; exact h x q
theorem DK.s {ss ks js : List Nat} {σ τ υ : MS} (h : DK τ υ) (f : Fr ss ks js σ τ) (hk : 4 ∉ ks) (h3 : 3 ∉ ks) : DK σ υ := fun x q => by
  have := h x (by rw [f.2.1 3 h3]; exact q)
  rw [this, f.2.1 4 hk]
theorem DK.put {σ τ : MS} (h : DK σ τ) {x v : Int} (hx : σ.2.1 3 x ≤ 5 ∨ σ.2.1 3 x = 10) : DK σ (sA 4 x v τ) := fun y q => ra_ne (fun e => q (by rw [e]; exact hx)) (h y q)

theorem dX12_renumber_51 : decode cX12_renumber 51 = .ok (.iload 4, 2) := by decide +kernel
theorem dX12_renumber_53 : decode cX12_renumber 53 = .ok (.aload_n 0, 1) := by decide +kernel
theorem dX12_renumber_54 : decode cX12_renumber 54 = .ok (.iload_n 3, 1) := by decide +kernel
theorem dX12_renumber_55 : decode cX12_renumber 55 = .ok (.invokevirtual 199, 3) := by decide +kernel
theorem dX12_renumber_58 : decode cX12_renumber 58 = .ok (.if_icmp .ge 65, 3) := by decide +kernel
theorem dX12_renumber_61 : decode cX12_renumber 61 = .ok (.aload_n 0, 1) := by decide +kernel
theorem dX12_renumber_62 : decode cX12_renumber 62 = .ok (.getfield 29, 3) := by decide +kernel
theorem dX12_renumber_65 : decode cX12_renumber 65 = .ok (.iconst 4, 1) := by decide +kernel
theorem dX12_renumber_66 : decode cX12_renumber 66 = .ok (.iload_n 3, 1) := by decide +kernel
theorem dX12_renumber_67 : decode cX12_renumber 67 = .ok (.imul, 1) := by decide +kernel
theorem dX12_renumber_68 : decode cX12_renumber 68 = .ok (.iload 4, 2) := by decide +kernel
theorem dX12_renumber_70 : decode cX12_renumber 70 = .ok (.iadd, 1) := by decide +kernel
theorem dX12_renumber_71 : decode cX12_renumber 71 = .ok (.aload_n 0, 1) := by decide +kernel
theorem dX12_renumber_72 : decode cX12_renumber 72 = .ok (.getfield 26, 3) := by decide +kernel
theorem dX12_renumber_75 : decode cX12_renumber 75 = .ok (.iconst 4, 1) := by decide +kernel
theorem dX12_renumber_76 : decode cX12_renumber 76 = .ok (.iload_n 3, 1) := by decide +kernel
theorem dX12_renumber_77 : decode cX12_renumber 77 = .ok (.imul, 1) := by decide +kernel
theorem dX12_renumber_78 : decode cX12_renumber 78 = .ok (.iload 4, 2) := by decide +kernel
theorem dX12_renumber_80 : decode cX12_renumber 80 = .ok (.iadd, 1) := by decide +kernel
theorem dX12_renumber_81 : decode cX12_renumber 81 = .ok (.iaload, 1) := by decide +kernel
theorem dX12_renumber_82 : decode cX12_renumber 82 = .ok (.iconst 2, 1) := by decide +kernel
theorem dX12_renumber_83 : decode cX12_renumber 83 = .ok (.if_icmp .ne 22, 3) := by decide +kernel
theorem dX12_renumber_105 : decode cX12_renumber 105 = .ok (.aload_n 0, 1) := by decide +kernel
theorem dX12_renumber_106 : decode cX12_renumber 106 = .ok (.getfield 29, 3) := by decide +kernel
theorem dX12_renumber_109 : decode cX12_renumber 109 = .ok (.iconst 4, 1) := by decide +kernel
theorem dX12_renumber_110 : decode cX12_renumber 110 = .ok (.iload_n 3, 1) := by decide +kernel
theorem dX12_renumber_111 : decode cX12_renumber 111 = .ok (.imul, 1) := by decide +kernel
theorem dX12_renumber_112 : decode cX12_renumber 112 = .ok (.iload 4, 2) := by decide +kernel
theorem dX12_renumber_114 : decode cX12_renumber 114 = .ok (.iadd, 1) := by decide +kernel
theorem dX12_renumber_115 : decode cX12_renumber 115 = .ok (.iaload, 1) := by decide +kernel
theorem dX12_renumber_116 : decode cX12_renumber 116 = .ok (.iastore, 1) := by decide +kernel
theorem dX12_renumber_117 : decode cX12_renumber 117 = .ok (.iinc 4 1, 3) := by decide +kernel
theorem dX12_renumber_120 : decode cX12_renumber 120 = .ok (.goto (-69), 3) := by decide +kernel
theorem dX12_renumber_86 : decode cX12_renumber 86 = .ok (.aload_n 0, 1) := by decide +kernel
theorem dX12_renumber_87 : decode cX12_renumber 87 = .ok (.getfield 143, 3) := by decide +kernel
theorem dX12_renumber_90 : decode cX12_renumber 90 = .ok (.aload_n 0, 1) := by decide +kernel
theorem dX12_renumber_91 : decode cX12_renumber 91 = .ok (.getfield 29, 3) := by decide +kernel
theorem dX12_renumber_94 : decode cX12_renumber 94 = .ok (.iconst 4, 1) := by decide +kernel
theorem dX12_renumber_95 : decode cX12_renumber 95 = .ok (.iload_n 3, 1) := by decide +kernel
theorem dX12_renumber_96 : decode cX12_renumber 96 = .ok (.imul, 1) := by decide +kernel
theorem dX12_renumber_97 : decode cX12_renumber 97 = .ok (.iload 4, 2) := by decide +kernel
theorem dX12_renumber_99 : decode cX12_renumber 99 = .ok (.iadd, 1) := by decide +kernel
theorem dX12_renumber_100 : decode cX12_renumber 100 = .ok (.iaload, 1) := by decide +kernel
theorem dX12_renumber_101 : decode cX12_renumber 101 = .ok (.iaload, 1) := by decide +kernel
theorem dX12_renumber_102 : decode cX12_renumber 102 = .ok (.goto 14, 3) := by decide +kernel
set_option maxHeartbeats 4000000 in
set_option maxRecDepth 20000 in
theorem l_ren2 (d : Nat) {b : Nat} {σ0 : MS} {r : Int} {F : Int} {k : Int} {post : Option Value → MS → Prop} (hr : 0 ≤ r ∧ r < 6) (hR0 : RG σ0) (hit : ITM σ0) (hpar : PAR σ0) (hnu : NUM σ0) (hk : 0 ≤ k ∧ k < σ0.2.1 9 r) (hx_123 : ∀ (i : Int) (σ : MS) , (Fr [] [8] [] σ0 σ) → (RG σ) → (OKS σ F r) → (XO r σ0 σ) → Tm (d + 4) m_X12_renumber 123 b σ [(4, .int (iI i)), (3, .int (iI (220 * r + k))), (2, .int (iI k)), (0, .ref b), (1, .int (iI r))] [] post) : ∀ (n : Nat) (i : Int) (σ : MS) , (Fr [] [8] [] σ0 σ) → (RG σ) → (0 ≤ i ∧ i ≤ 4) → (OKS σ F r) → (XO r σ0 σ) → (4 - i).toNat = n → Tm (d + 4) m_X12_renumber 51 b σ [(4, .int (iI i)), (3, .int (iI (220 * r + k))), (2, .int (iI k)), (0, .ref b), (1, .int (iI r))] [] post := by
  intro n
  induction n using Nat.strongRecOn with
  | _ n ih =>
    intro i σ hF hR h0 hok hxo hm
    have hit1 := hit.fr hF (by decide)
    have hpar1 := hpar.fr hF (by decide)
    have hnu1 := hnu.fr hF (by decide)
    have q1 := hit r (by omega) (by omega)
    have q9 : σ.2.1 9 r = σ0.2.1 9 r := by rw [hF.2.1 9 (by decide)]
    have q7 : σ.2.1 7 = σ0.2.1 7 := hF.2.1 7 (by decide)
    refine tm_iload dX12_renumber_51 0 rfl ?_
    refine tm_aload_n dX12_renumber_53 rfl 3 rfl ?_
    refine tm_iload_n dX12_renumber_54 rfl 1 rfl ?_
    refine tm_callV (M := m_X12_renumber) (pc := 55) (ix := 199) (M' := m_X12_args) (As := [.int (iI (220 * r + k))]) (rest := [.int (iI i)]) dX12_renumber_55 ok_X12_args im_X12_args se_X12_args ml12_199 np_X12_args rfl rfl (Nat.le_of_ble_eq_true rfl) (Nat.le_of_ble_eq_true rfl) rfl (c_X12_args (d) (σ := σ) (x := 220 * r + k) (by omega) hR (hok.of (by omega) (by omega)) hpar1) (fun r1 σ2 hp => ?_)
    obtain ⟨v3, rfl, rfl, f4, f5⟩ := hp
    show Tm _ _ 58 b σ [(4, .int (iI i)), (3, .int (iI (220 * r + k))), (2, .int (iI k)), (0, .ref b), (1, .int (iI r))] [.int (iI v3), .int (iI i)] _
    refine tm_icmp_ge (tgt := 123) dX12_renumber_58 (by decide) ⟨by omega, by omega⟩ ⟨by omega, by omega⟩ (fun h6 => ?_) (fun h6 => ?_)
    · exact tm_sub [0, 1, 2, 3, 4] rfl (hx_123 (i) σ (Fr.rfl.trans (Fr.sub hF (by decide) (by decide) (by decide))) hR hok hxo)
    · have q2 := hok.arg (k := k) (by omega) (by omega) (i := i) (by omega) (by omega)
      rw [q7] at q2
      refine tm_aload_n dX12_renumber_61 rfl 3 rfl ?_
      refine tm_get (k := 8) (v := .ref (b + 1 + 6)) lay_12 dX12_renumber_62 (by decide) fl12_29 rfl ?_
      refine tm_iconst dX12_renumber_65 ?_
      refine tm_iload_n dX12_renumber_66 rfl 1 rfl ?_
      refine tm_imul dX12_renumber_67 ?_
      refine tm_iload dX12_renumber_68 0 rfl ?_
      refine tm_iadd dX12_renumber_70 ?_
      refine tm_aload_n dX12_renumber_71 rfl 3 rfl ?_
      refine tm_get (k := 7) (v := .ref (b + 1 + 5)) lay_12 dX12_renumber_72 (by decide) fl12_26 rfl ?_
      refine tm_iconst dX12_renumber_75 ?_
      refine tm_iload_n dX12_renumber_76 rfl 1 rfl ?_
      refine tm_imul dX12_renumber_77 ?_
      refine tm_iload dX12_renumber_78 0 rfl ?_
      refine tm_iadd dX12_renumber_80 ?_
      refine tm_iald (z := (4 * (220 * r + k)) + i) (v := σ0.2.1 7 ((4 * (220 * r + k)) + i)) dX12_renumber_81 (show mT[5]? = some (7, 0, 11440) from rfl) (by omega) (by omega) (by decide) (ra_F hF (by decide) (rfl)) ?_
      have g7 := RG.a hR0 7 ((4 * (220 * r + k)) + i)
      refine tm_iconst dX12_renumber_82 ?_
      refine tm_icmp_ne (tgt := 105) dX12_renumber_83 (by decide) ⟨by omega, by omega⟩ ⟨by decide, by decide⟩ (fun h8 => ?_) (fun h8 => ?_)
      · refine tm_aload_n dX12_renumber_105 rfl 3 rfl ?_
        refine tm_get (k := 8) (v := .ref (b + 1 + 6)) lay_12 dX12_renumber_106 (by decide) fl12_29 rfl ?_
        refine tm_iconst dX12_renumber_109 ?_
        refine tm_iload_n dX12_renumber_110 rfl 1 rfl ?_
        refine tm_imul dX12_renumber_111 ?_
        refine tm_iload dX12_renumber_112 0 rfl ?_
        refine tm_iadd dX12_renumber_114 ?_
        refine tm_iald (z := (4 * (220 * r + k)) + i) (v := σ.2.1 8 ((4 * (220 * r + k)) + i)) dX12_renumber_115 (show mT[6]? = some (8, 0, 11440) from rfl) (by omega) (by omega) (by decide) (rfl) ?_
        have g9 := RG.a hR 8 ((4 * (220 * r + k)) + i)
        refine tm_iast (z := (4 * (220 * r + k)) + i) (v := σ.2.1 8 ((4 * (220 * r + k)) + i)) dX12_renumber_116 (show mT[6]? = some (8, 0, 11440) from rfl) (by omega) (by omega) (by decide) ?_
        refine tm_iinc (q0 := 0) (L' := [(4, .int (iI (i + 1))), (3, .int (iI (220 * r + k))), (2, .int (iI k)), (0, .ref b), (1, .int (iI r))]) dX12_renumber_117 rfl (by decide) rfl ?_
        refine tm_goto (tgt := 51) dX12_renumber_120 (by decide) ?_
        exact tm_sub [0, 1, 2, 3, 4] rfl (ih _ (by omega) (i + 1) (sA 8 ((4 * (220 * r + k)) + i) (σ.2.1 8 ((4 * (220 * r + k)) + i)) σ) ((Fr.rfl.trans (Fr.sub hF (by decide) (by decide) (by decide))).A (by decide)) (hR.A (by omega)) (by omega) ((OFF.a8 (by omega) (by omega)).oks hok (oki_arg (hok k (by omega) (by omega)) (by omega) (by omega) (by rw [q7]; omega))) (hxo.trans ((OFF.a8 (by omega) (by omega)).xo (by omega) (by omega))) rfl)
      · refine tm_aload_n dX12_renumber_86 rfl 3 rfl ?_
        refine tm_get (k := 64) (v := .ref (b + 1 + 41)) lay_12 dX12_renumber_87 (by decide) fl12_143 rfl ?_
        refine tm_aload_n dX12_renumber_90 rfl 3 rfl ?_
        refine tm_get (k := 8) (v := .ref (b + 1 + 6)) lay_12 dX12_renumber_91 (by decide) fl12_29 rfl ?_
        refine tm_iconst dX12_renumber_94 ?_
        refine tm_iload_n dX12_renumber_95 rfl 1 rfl ?_
        refine tm_imul dX12_renumber_96 ?_
        refine tm_iload dX12_renumber_97 0 rfl ?_
        refine tm_iadd dX12_renumber_99 ?_
        refine tm_iald (z := (4 * (220 * r + k)) + i) (v := σ.2.1 8 ((4 * (220 * r + k)) + i)) dX12_renumber_100 (show mT[6]? = some (8, 0, 11440) from rfl) (by omega) (by omega) (by decide) (rfl) ?_
        have g10 := RG.a hR 8 ((4 * (220 * r + k)) + i)
        refine tm_iald (z := σ.2.1 8 ((4 * (220 * r + k)) + i)) (v := σ0.2.1 64 (σ.2.1 8 ((4 * (220 * r + k)) + i))) dX12_renumber_101 (show mT[41]? = some (64, 0, 192) from rfl) (by omega) (by omega) (by decide) (ra_F hF (by decide) (rfl)) ?_
        have g11 := RG.a hR0 64 (σ.2.1 8 ((4 * (220 * r + k)) + i))
        have := hnu (σ.2.1 8 ((4 * (220 * r + k)) + i)) (by omega) (by omega)
        refine tm_goto (tgt := 116) dX12_renumber_102 (by decide) ?_
        refine tm_iast (z := (4 * (220 * r + k)) + i) (v := σ0.2.1 64 (σ.2.1 8 ((4 * (220 * r + k)) + i))) dX12_renumber_116 (show mT[6]? = some (8, 0, 11440) from rfl) (by omega) (by omega) (by decide) ?_
        refine tm_iinc (q0 := 0) (L' := [(4, .int (iI (i + 1))), (3, .int (iI (220 * r + k))), (2, .int (iI k)), (0, .ref b), (1, .int (iI r))]) dX12_renumber_117 rfl (by decide) rfl ?_
        refine tm_goto (tgt := 51) dX12_renumber_120 (by decide) ?_
        exact tm_sub [0, 1, 2, 3, 4] rfl (ih _ (by omega) (i + 1) (sA 8 ((4 * (220 * r + k)) + i) (σ0.2.1 64 (σ.2.1 8 ((4 * (220 * r + k)) + i))) σ) ((Fr.rfl.trans (Fr.sub hF (by decide) (by decide) (by decide))).A (by decide)) (hR.A (by omega)) (by omega) ((OFF.a8 (by omega) (by omega)).oks hok (oki_arg (hok k (by omega) (by omega)) (by omega) (by omega) (by rw [q7]; omega))) (hxo.trans ((OFF.a8 (by omega) (by omega)).xo (by omega) (by omega))) rfl)
theorem dX12_renumber_2 : decode cX12_renumber 2 = .ok (.iload_n 2, 1) := by decide +kernel
theorem dX12_renumber_3 : decode cX12_renumber 3 = .ok (.aload_n 0, 1) := by decide +kernel
theorem dX12_renumber_4 : decode cX12_renumber 4 = .ok (.getfield 32, 3) := by decide +kernel
theorem dX12_renumber_7 : decode cX12_renumber 7 = .ok (.iload_n 1, 1) := by decide +kernel
theorem dX12_renumber_8 : decode cX12_renumber 8 = .ok (.iaload, 1) := by decide +kernel
theorem dX12_renumber_9 : decode cX12_renumber 9 = .ok (.if_icmp .ge 120, 3) := by decide +kernel
theorem dX12_renumber_12 : decode cX12_renumber 12 = .ok (.aload_n 0, 1) := by decide +kernel
theorem dX12_renumber_13 : decode cX12_renumber 13 = .ok (.iload_n 1, 1) := by decide +kernel
theorem dX12_renumber_14 : decode cX12_renumber 14 = .ok (.iload_n 2, 1) := by decide +kernel
theorem dX12_renumber_15 : decode cX12_renumber 15 = .ok (.invokevirtual 203, 3) := by decide +kernel
theorem dX12_renumber_18 : decode cX12_renumber 18 = .ok (.istore_n 3, 1) := by decide +kernel
theorem dX12_renumber_19 : decode cX12_renumber 19 = .ok (.aload_n 0, 1) := by decide +kernel
theorem dX12_renumber_20 : decode cX12_renumber 20 = .ok (.getfield 13, 3) := by decide +kernel
theorem dX12_renumber_23 : decode cX12_renumber 23 = .ok (.iload_n 3, 1) := by decide +kernel
theorem dX12_renumber_24 : decode cX12_renumber 24 = .ok (.iaload, 1) := by decide +kernel
theorem dX12_renumber_25 : decode cX12_renumber 25 = .ok (.invokestatic 192, 3) := by decide +kernel
theorem dX12_renumber_28 : decode cX12_renumber 28 = .ok (.ifCond .eq 20, 3) := by decide +kernel
theorem dX12_renumber_48 : decode cX12_renumber 48 = .ok (.iconst 0, 1) := by decide +kernel
theorem dX12_renumber_49 : decode cX12_renumber 49 = .ok (.istore 4, 2) := by decide +kernel
theorem dX12_renumber_123 : decode cX12_renumber 123 = .ok (.iinc 2 1, 3) := by decide +kernel
theorem dX12_renumber_126 : decode cX12_renumber 126 = .ok (.goto (-124), 3) := by decide +kernel
theorem dX12_renumber_31 : decode cX12_renumber 31 = .ok (.aload_n 0, 1) := by decide +kernel
theorem dX12_renumber_32 : decode cX12_renumber 32 = .ok (.getfield 17, 3) := by decide +kernel
theorem dX12_renumber_35 : decode cX12_renumber 35 = .ok (.iload_n 3, 1) := by decide +kernel
theorem dX12_renumber_36 : decode cX12_renumber 36 = .ok (.aload_n 0, 1) := by decide +kernel
theorem dX12_renumber_37 : decode cX12_renumber 37 = .ok (.getfield 143, 3) := by decide +kernel
theorem dX12_renumber_40 : decode cX12_renumber 40 = .ok (.aload_n 0, 1) := by decide +kernel
theorem dX12_renumber_41 : decode cX12_renumber 41 = .ok (.getfield 17, 3) := by decide +kernel
theorem dX12_renumber_44 : decode cX12_renumber 44 = .ok (.iload_n 3, 1) := by decide +kernel
theorem dX12_renumber_45 : decode cX12_renumber 45 = .ok (.iaload, 1) := by decide +kernel
theorem dX12_renumber_46 : decode cX12_renumber 46 = .ok (.iaload, 1) := by decide +kernel
theorem dX12_renumber_47 : decode cX12_renumber 47 = .ok (.iastore, 1) := by decide +kernel
set_option maxHeartbeats 4000000 in
set_option maxRecDepth 20000 in
theorem l_ren1 (d : Nat) {b : Nat} {σ0 : MS} {r : Int} {F : Int} {post : Option Value → MS → Prop} (hr : 0 ≤ r ∧ r < 6) (hR0 : RG σ0) (hit : ITM σ0) (hpar : PAR σ0) (hnu : NUM σ0) (hx_129 : ∀ (k : Int) (σ : MS) , (Fr [] [4, 8] [] σ0 σ) → (RG σ) → (OKS σ F r) → (XO r σ0 σ) → (DK σ0 σ) → Tm (d + 4) m_X12_renumber 129 b σ [(2, .int (iI k)), (0, .ref b), (1, .int (iI r))] [] post) : ∀ (n : Nat) (k : Int) (σ : MS) , (Fr [] [4, 8] [] σ0 σ) → (RG σ) → (0 ≤ k ∧ k ≤ σ0.2.1 9 r) → (OKS σ F r) → (XO r σ0 σ) → (DK σ0 σ) → (220 - k).toNat = n → Tm (d + 4) m_X12_renumber 2 b σ [(2, .int (iI k)), (0, .ref b), (1, .int (iI r))] [] post := by
  intro n
  induction n using Nat.strongRecOn with
  | _ n ih =>
    intro k σ hF hR h0 hok hxo hdk hm
    have hit1 := hit.fr hF (by decide)
    have hpar1 := hpar.fr hF (by decide)
    have hnu1 := hnu.fr hF (by decide)
    have q1 := hit r (by omega) (by omega)
    have q9 : σ.2.1 9 r = σ0.2.1 9 r := by rw [hF.2.1 9 (by decide)]
    have q3 : σ.2.1 3 = σ0.2.1 3 := hF.2.1 3 (by decide)
    refine tm_iload_n dX12_renumber_2 rfl 0 rfl ?_
    refine tm_aload_n dX12_renumber_3 rfl 1 rfl ?_
    refine tm_get (k := 9) (v := .ref (b + 1 + 7)) lay_12 dX12_renumber_4 (by decide) fl12_32 rfl ?_
    refine tm_iload_n dX12_renumber_7 rfl 2 rfl ?_
    refine tm_iald (z := r) (v := σ0.2.1 9 r) dX12_renumber_8 (show mT[7]? = some (9, 0, 13) from rfl) (by omega) (by omega) (by decide) (ra_F hF (by decide) (rfl)) ?_
    have g1 := RG.a hR0 9 (r)
    refine tm_icmp_ge (tgt := 129) dX12_renumber_9 (by decide) ⟨by omega, by omega⟩ ⟨by omega, by omega⟩ (fun h2 => ?_) (fun h2 => ?_)
    · exact tm_sub [0, 1, 2] rfl (hx_129 (k) σ (Fr.rfl.trans (Fr.sub hF (by decide) (by decide) (by decide))) hR hok hxo hdk)
    · refine tm_aload_n dX12_renumber_12 rfl 1 rfl ?_
      refine tm_iload_n dX12_renumber_13 rfl 2 rfl ?_
      refine tm_iload_n dX12_renumber_14 rfl 0 rfl ?_
      refine tm_callV (M := m_X12_renumber) (pc := 15) (ix := 203) (M' := m_X12_at) (As := [.int (iI r), .int (iI k)]) (rest := []) dX12_renumber_15 ok_X12_at im_X12_at se_X12_at ml12_203 np_X12_at rfl rfl (Nat.le_of_ble_eq_true rfl) (Nat.le_of_ble_eq_true rfl) rfl (c_X12_at (d + 2) (σ := σ) (x := r) (k := k) ) (fun r3 σ4 hp => ?_)
      obtain ⟨v5, rfl, rfl, f6⟩ := hp
      subst f6
      show Tm _ _ 18 b σ [(2, .int (iI k)), (0, .ref b), (1, .int (iI r))] [.int (iI (220 * r + k))] _
      refine tm_istore_n (L' := [(3, .int (iI (220 * r + k))), (2, .int (iI k)), (0, .ref b), (1, .int (iI r))]) dX12_renumber_18 rfl (by decide) rfl ?_
      refine tm_aload_n dX12_renumber_19 rfl 2 rfl ?_
      refine tm_get (k := 3) (v := .ref (b + 1 + 1)) lay_12 dX12_renumber_20 (by decide) fl12_13 rfl ?_
      refine tm_iload_n dX12_renumber_23 rfl 0 rfl ?_
      refine tm_iald (z := 220 * r + k) (v := σ0.2.1 3 (220 * r + k)) dX12_renumber_24 (show mT[1]? = some (3, 0, 2860) from rfl) (by omega) (by omega) (by decide) (ra_F hF (by decide) (rfl)) ?_
      have g7 := RG.a hR0 3 (220 * r + k)
      refine tm_callS (M := m_X12_renumber) (pc := 25) (ix := 192) (M' := m_X12_writes) (As := [.int (iI (σ0.2.1 3 (220 * r + k)))]) (rest := []) dX12_renumber_25 ok_X12_writes stt_X12_writes ml12_192 np_X12_writes rfl (Nat.le_of_ble_eq_true rfl) (Nat.le_of_ble_eq_true rfl) rfl (c_X12_writes (d + 2) (σ := σ) (x := σ0.2.1 3 (220 * r + k)) (by omega)) (fun r8 σ9 hp => ?_)
      obtain ⟨v10, rfl, rfl, f11, f12⟩ := hp
      show Tm _ _ 28 b σ [(3, .int (iI (220 * r + k))), (2, .int (iI k)), (0, .ref b), (1, .int (iI r))] [.int (iI v10)] _
      refine tm_if_eq (tgt := 48) dX12_renumber_28 (by decide) ⟨by omega, by omega⟩ (fun h13 => ?_) (fun h13 => ?_)
      · refine tm_iconst dX12_renumber_48 ?_
        refine tm_istore (L' := [(4, .int (iI 0)), (3, .int (iI (220 * r + k))), (2, .int (iI k)), (0, .ref b), (1, .int (iI r))]) dX12_renumber_49 (by decide) rfl ?_
        refine tm_sub [0, 1, 2, 3, 4] rfl (l_ren2 (d) (σ0 := σ) (r := r) (k := k) (F := F) hr hR (hit.fr (show Fr [] [4, 8] [] σ0 σ from (Fr.rfl.trans (Fr.sub hF (by decide) (by decide) (by decide)))) (by decide)) (hpar.fr (show Fr [] [4, 8] [] σ0 σ from (Fr.rfl.trans (Fr.sub hF (by decide) (by decide) (by decide)))) (by decide)) (hnu.fr (show Fr [] [4, 8] [] σ0 σ from (Fr.rfl.trans (Fr.sub hF (by decide) (by decide) (by decide)))) (by decide)) (by rw [((show Fr [] [4, 8] [] σ0 σ from (Fr.rfl.trans (Fr.sub hF (by decide) (by decide) (by decide))))).2.1 9 (by decide)]; omega) (fun i20 σ21 F16 R17 f18 f19 => ?_) _ (0) σ Fr.rfl hR (by omega) hok XO.rfl rfl)
        show Tm _ _ 123 b σ21 [(4, .int (iI i20)), (3, .int (iI (220 * r + k))), (2, .int (iI k)), (0, .ref b), (1, .int (iI r))] [] _
        refine tm_iinc (q0 := 2) (L' := [(2, .int (iI (k + 1))), (4, .int (iI i20)), (3, .int (iI (220 * r + k))), (0, .ref b), (1, .int (iI r))]) dX12_renumber_123 rfl (by decide) rfl ?_
        refine tm_goto (tgt := 2) dX12_renumber_126 (by decide) ?_
        exact tm_sub [0, 3, 4] rfl (ih _ (by omega) (k + 1) σ21 ((Fr.rfl.trans (Fr.sub hF (by decide) (by decide) (by decide))).trans (Fr.sub F16 (by decide) (by decide) (by decide))) R17 (by omega) f18 (hxo.trans f19) (hdk.t F16 (by decide)) rfl)
      · have q2 := hok.dest (k := k) (by omega) (by omega) (by rw [q3]; omega)
        have hokd : ∀ v, 0 ≤ v ∧ v < 192 → OKS (sA 4 (220 * r + k) v σ) F r := fun v hv => (OFF.A (by decide)).oks hok (oki_dest (hok k (by omega) (by omega)) (by rw [q3]; omega) hv)
        refine tm_aload_n dX12_renumber_31 rfl 2 rfl ?_
        refine tm_get (k := 4) (v := .ref (b + 1 + 2)) lay_12 dX12_renumber_32 (by decide) fl12_17 rfl ?_
        refine tm_iload_n dX12_renumber_35 rfl 0 rfl ?_
        refine tm_aload_n dX12_renumber_36 rfl 2 rfl ?_
        refine tm_get (k := 64) (v := .ref (b + 1 + 41)) lay_12 dX12_renumber_37 (by decide) fl12_143 rfl ?_
        refine tm_aload_n dX12_renumber_40 rfl 2 rfl ?_
        refine tm_get (k := 4) (v := .ref (b + 1 + 2)) lay_12 dX12_renumber_41 (by decide) fl12_17 rfl ?_
        refine tm_iload_n dX12_renumber_44 rfl 0 rfl ?_
        refine tm_iald (z := 220 * r + k) (v := σ.2.1 4 (220 * r + k)) dX12_renumber_45 (show mT[2]? = some (4, 0, 2860) from rfl) (by omega) (by omega) (by decide) (rfl) ?_
        have g22 := RG.a hR 4 (220 * r + k)
        refine tm_iald (z := σ.2.1 4 (220 * r + k)) (v := σ0.2.1 64 (σ.2.1 4 (220 * r + k))) dX12_renumber_46 (show mT[41]? = some (64, 0, 192) from rfl) (by omega) (by omega) (by decide) (ra_F hF (by decide) (rfl)) ?_
        have g23 := RG.a hR0 64 (σ.2.1 4 (220 * r + k))
        have := hnu (σ.2.1 4 (220 * r + k)) (by omega) (by omega)
        refine tm_iast (z := 220 * r + k) (v := σ0.2.1 64 (σ.2.1 4 (220 * r + k))) dX12_renumber_47 (show mT[2]? = some (4, 0, 2860) from rfl) (by omega) (by omega) (by decide) ?_
        refine tm_iconst dX12_renumber_48 ?_
        refine tm_istore (L' := [(4, .int (iI 0)), (3, .int (iI (220 * r + k))), (2, .int (iI k)), (0, .ref b), (1, .int (iI r))]) dX12_renumber_49 (by decide) rfl ?_
        refine tm_sub [0, 1, 2, 3, 4] rfl (l_ren2 (d) (σ0 := (sA 4 (220 * r + k) (σ0.2.1 64 (σ.2.1 4 (220 * r + k))) σ)) (r := r) (k := k) (F := F) hr (hR.A (by omega)) (hit.fr (show Fr [] [4, 8] [] σ0 (sA 4 (220 * r + k) (σ0.2.1 64 (σ.2.1 4 (220 * r + k))) σ) from ((Fr.rfl.trans (Fr.sub hF (by decide) (by decide) (by decide))).A (by decide))) (by decide)) (hpar.fr (show Fr [] [4, 8] [] σ0 (sA 4 (220 * r + k) (σ0.2.1 64 (σ.2.1 4 (220 * r + k))) σ) from ((Fr.rfl.trans (Fr.sub hF (by decide) (by decide) (by decide))).A (by decide))) (by decide)) (hnu.fr (show Fr [] [4, 8] [] σ0 (sA 4 (220 * r + k) (σ0.2.1 64 (σ.2.1 4 (220 * r + k))) σ) from ((Fr.rfl.trans (Fr.sub hF (by decide) (by decide) (by decide))).A (by decide))) (by decide)) (by rw [((show Fr [] [4, 8] [] σ0 (sA 4 (220 * r + k) (σ0.2.1 64 (σ.2.1 4 (220 * r + k))) σ) from ((Fr.rfl.trans (Fr.sub hF (by decide) (by decide) (by decide))).A (by decide)))).2.1 9 (by decide)]; omega) (fun i30 σ31 F26 R27 f28 f29 => ?_) _ (0) (sA 4 (220 * r + k) (σ0.2.1 64 (σ.2.1 4 (220 * r + k))) σ) Fr.rfl (hR.A (by omega)) (by omega) (hokd _ (by omega)) XO.rfl rfl)
        show Tm _ _ 123 b σ31 [(4, .int (iI i30)), (3, .int (iI (220 * r + k))), (2, .int (iI k)), (0, .ref b), (1, .int (iI r))] [] _
        refine tm_iinc (q0 := 2) (L' := [(2, .int (iI (k + 1))), (4, .int (iI i30)), (3, .int (iI (220 * r + k))), (0, .ref b), (1, .int (iI r))]) dX12_renumber_123 rfl (by decide) rfl ?_
        refine tm_goto (tgt := 2) dX12_renumber_126 (by decide) ?_
        exact tm_sub [0, 3, 4] rfl (ih _ (by omega) (k + 1) σ31 (((Fr.rfl.trans (Fr.sub hF (by decide) (by decide) (by decide))).A (by decide)).trans (Fr.sub F26 (by decide) (by decide) (by decide))) R27 (by omega) f28 ((hxo.trans ((OFF.A (by decide)).xo (by omega) (by omega))).trans f29) ((hdk.put (by omega)).t F26 (by decide)) rfl)
theorem dX12_renumber_143 : decode cX12_renumber 143 = .ok (.iload_n 3, 1) := by decide +kernel
theorem dX12_renumber_144 : decode cX12_renumber 144 = .ok (.aload_n 0, 1) := by decide +kernel
theorem dX12_renumber_145 : decode cX12_renumber 145 = .ok (.getfield 38, 3) := by decide +kernel
theorem dX12_renumber_148 : decode cX12_renumber 148 = .ok (.aload_n 0, 1) := by decide +kernel
theorem dX12_renumber_149 : decode cX12_renumber 149 = .ok (.getfield 47, 3) := by decide +kernel
theorem dX12_renumber_152 : decode cX12_renumber 152 = .ok (.bipush 12, 2) := by decide +kernel
theorem dX12_renumber_154 : decode cX12_renumber 154 = .ok (.iload_n 1, 1) := by decide +kernel
theorem dX12_renumber_155 : decode cX12_renumber 155 = .ok (.imul, 1) := by decide +kernel
theorem dX12_renumber_156 : decode cX12_renumber 156 = .ok (.iload_n 2, 1) := by decide +kernel
theorem dX12_renumber_157 : decode cX12_renumber 157 = .ok (.iadd, 1) := by decide +kernel
theorem dX12_renumber_158 : decode cX12_renumber 158 = .ok (.iaload, 1) := by decide +kernel
theorem dX12_renumber_159 : decode cX12_renumber 159 = .ok (.iaload, 1) := by decide +kernel
theorem dX12_renumber_160 : decode cX12_renumber 160 = .ok (.if_icmp .ge 42, 3) := by decide +kernel
theorem dX12_renumber_163 : decode cX12_renumber 163 = .ok (.sipush 144, 3) := by decide +kernel
theorem dX12_renumber_166 : decode cX12_renumber 166 = .ok (.iload_n 1, 1) := by decide +kernel
theorem dX12_renumber_167 : decode cX12_renumber 167 = .ok (.imul, 1) := by decide +kernel
theorem dX12_renumber_168 : decode cX12_renumber 168 = .ok (.bipush 12, 2) := by decide +kernel
theorem dX12_renumber_170 : decode cX12_renumber 170 = .ok (.iload_n 2, 1) := by decide +kernel
theorem dX12_renumber_171 : decode cX12_renumber 171 = .ok (.imul, 1) := by decide +kernel
theorem dX12_renumber_172 : decode cX12_renumber 172 = .ok (.iadd, 1) := by decide +kernel
theorem dX12_renumber_173 : decode cX12_renumber 173 = .ok (.iload_n 3, 1) := by decide +kernel
theorem dX12_renumber_174 : decode cX12_renumber 174 = .ok (.iadd, 1) := by decide +kernel
theorem dX12_renumber_175 : decode cX12_renumber 175 = .ok (.istore 4, 2) := by decide +kernel
theorem dX12_renumber_177 : decode cX12_renumber 177 = .ok (.aload_n 0, 1) := by decide +kernel
theorem dX12_renumber_178 : decode cX12_renumber 178 = .ok (.getfield 56, 3) := by decide +kernel
theorem dX12_renumber_181 : decode cX12_renumber 181 = .ok (.iload 4, 2) := by decide +kernel
theorem dX12_renumber_183 : decode cX12_renumber 183 = .ok (.aload_n 0, 1) := by decide +kernel
theorem dX12_renumber_184 : decode cX12_renumber 184 = .ok (.getfield 143, 3) := by decide +kernel
theorem dX12_renumber_187 : decode cX12_renumber 187 = .ok (.aload_n 0, 1) := by decide +kernel
theorem dX12_renumber_188 : decode cX12_renumber 188 = .ok (.getfield 56, 3) := by decide +kernel
theorem dX12_renumber_191 : decode cX12_renumber 191 = .ok (.iload 4, 2) := by decide +kernel
theorem dX12_renumber_193 : decode cX12_renumber 193 = .ok (.iaload, 1) := by decide +kernel
theorem dX12_renumber_194 : decode cX12_renumber 194 = .ok (.iaload, 1) := by decide +kernel
theorem dX12_renumber_195 : decode cX12_renumber 195 = .ok (.iastore, 1) := by decide +kernel
theorem dX12_renumber_196 : decode cX12_renumber 196 = .ok (.iinc 3 1, 3) := by decide +kernel
theorem dX12_renumber_199 : decode cX12_renumber 199 = .ok (.goto (-56), 3) := by decide +kernel
set_option maxHeartbeats 4000000 in
set_option maxRecDepth 20000 in
theorem l_ren4 (d : Nat) {b : Nat} {σ0 : MS} {r : Int} {f : Int} {post : Option Value → MS → Prop} (hr : 0 ≤ r ∧ r < 6) (hR0 : RG σ0) (hnam : NAM σ0) (hnu : NUM σ0) (hf : 0 ≤ f ∧ f < σ0.2.1 14 r) (hx_202 : ∀ (n1 : Int) (σ : MS) , (Fr [] [18] [] σ0 σ) → (RG σ) → (OKF σ r) → (XN r σ0 σ) → Tm (d + 1) m_X12_renumber 202 b σ [(3, .int (iI n1)), (2, .int (iI f)), (0, .ref b), (1, .int (iI r))] [] post) : ∀ (n : Nat) (n1 : Int) (σ : MS) , (Fr [] [18] [] σ0 σ) → (RG σ) → (0 ≤ n1 ∧ n1 ≤ 12) → (OKF σ r) → (XN r σ0 σ) → (12 - n1).toNat = n → Tm (d + 1) m_X12_renumber 143 b σ [(3, .int (iI n1)), (2, .int (iI f)), (0, .ref b), (1, .int (iI r))] [] post := by
  intro n
  induction n using Nat.strongRecOn with
  | _ n ih =>
    intro n1 σ hF hR h0 hof hxn hm
    have q1 := hof.1
    have e14 : σ.2.1 14 = σ0.2.1 14 := hF.2.1 14 (by decide)
    have e15 : σ.2.1 15 = σ0.2.1 15 := hF.2.1 15 (by decide)
    have e12 : σ.2.1 12 = σ0.2.1 12 := hF.2.1 12 (by decide)
    rw [e14] at q1
    have q2 := (hof.2 f (by omega) (by rw [e14]; omega)).1
    rw [e15] at q2
    have q3 := hnam _ q2.1 q2.2
    refine tm_iload_n dX12_renumber_143 rfl 0 rfl ?_
    refine tm_aload_n dX12_renumber_144 rfl 2 rfl ?_
    refine tm_get (k := 12) (v := .ref (b + 1 + 9)) lay_12 dX12_renumber_145 (by decide) fl12_38 rfl ?_
    refine tm_aload_n dX12_renumber_148 rfl 2 rfl ?_
    refine tm_get (k := 15) (v := .ref (b + 1 + 12)) lay_12 dX12_renumber_149 (by decide) fl12_47 rfl ?_
    refine tm_bipush dX12_renumber_152 (by decide) ?_
    refine tm_iload_n dX12_renumber_154 rfl 3 rfl ?_
    refine tm_imul dX12_renumber_155 ?_
    refine tm_iload_n dX12_renumber_156 rfl 1 rfl ?_
    refine tm_iadd dX12_renumber_157 ?_
    refine tm_iald (z := (12 * r) + f) (v := σ0.2.1 15 ((12 * r) + f)) dX12_renumber_158 (show mT[12]? = some (15, 0, 72) from rfl) (by omega) (by omega) (by decide) (ra_F hF (by decide) (rfl)) ?_
    have g1 := RG.a hR0 15 ((12 * r) + f)
    refine tm_iald (z := σ0.2.1 15 ((12 * r) + f)) (v := σ0.2.1 12 (σ0.2.1 15 ((12 * r) + f))) dX12_renumber_159 (show mT[9]? = some (12, 0, 6) from rfl) (by omega) (by omega) (by decide) (ra_F hF (by decide) (rfl)) ?_
    have g2 := RG.a hR0 12 (σ0.2.1 15 ((12 * r) + f))
    refine tm_icmp_ge (tgt := 202) dX12_renumber_160 (by decide) ⟨by omega, by omega⟩ ⟨by omega, by omega⟩ (fun h3 => ?_) (fun h3 => ?_)
    · exact tm_sub [0, 1, 2, 3] rfl (hx_202 (n1) σ (Fr.rfl.trans (Fr.sub hF (by decide) (by decide) (by decide))) hR hof hxn)
    · have q4 := (hof.2 f (by omega) (by rw [e14]; omega)).2 n1 (by omega) (by rw [e12, e15]; omega)
      refine tm_sipush dX12_renumber_163 (by decide) ?_
      refine tm_iload_n dX12_renumber_166 rfl 3 rfl ?_
      refine tm_imul dX12_renumber_167 ?_
      refine tm_bipush dX12_renumber_168 (by decide) ?_
      refine tm_iload_n dX12_renumber_170 rfl 1 rfl ?_
      refine tm_imul dX12_renumber_171 ?_
      refine tm_iadd dX12_renumber_172 ?_
      refine tm_iload_n dX12_renumber_173 rfl 0 rfl ?_
      refine tm_iadd dX12_renumber_174 ?_
      refine tm_istore (L' := [(4, .int (iI (((144 * r) + (12 * f)) + n1))), (3, .int (iI n1)), (2, .int (iI f)), (0, .ref b), (1, .int (iI r))]) dX12_renumber_175 (by decide) rfl ?_
      refine tm_aload_n dX12_renumber_177 rfl 3 rfl ?_
      refine tm_get (k := 18) (v := .ref (b + 1 + 15)) lay_12 dX12_renumber_178 (by decide) fl12_56 rfl ?_
      refine tm_iload dX12_renumber_181 0 rfl ?_
      refine tm_aload_n dX12_renumber_183 rfl 3 rfl ?_
      refine tm_get (k := 64) (v := .ref (b + 1 + 41)) lay_12 dX12_renumber_184 (by decide) fl12_143 rfl ?_
      refine tm_aload_n dX12_renumber_187 rfl 3 rfl ?_
      refine tm_get (k := 18) (v := .ref (b + 1 + 15)) lay_12 dX12_renumber_188 (by decide) fl12_56 rfl ?_
      refine tm_iload dX12_renumber_191 0 rfl ?_
      refine tm_iald (z := ((144 * r) + (12 * f)) + n1) (v := σ.2.1 18 (((144 * r) + (12 * f)) + n1)) dX12_renumber_193 (show mT[15]? = some (18, 0, 864) from rfl) (by omega) (by omega) (by decide) (rfl) ?_
      have g4 := RG.a hR 18 (((144 * r) + (12 * f)) + n1)
      refine tm_iald (z := σ.2.1 18 (((144 * r) + (12 * f)) + n1)) (v := σ0.2.1 64 (σ.2.1 18 (((144 * r) + (12 * f)) + n1))) dX12_renumber_194 (show mT[41]? = some (64, 0, 192) from rfl) (by omega) (by omega) (by decide) (ra_F hF (by decide) (rfl)) ?_
      have g5 := RG.a hR0 64 (σ.2.1 18 (((144 * r) + (12 * f)) + n1))
      have := hnu (σ.2.1 18 (((144 * r) + (12 * f)) + n1)) (by omega) (by omega)
      refine tm_iast (z := ((144 * r) + (12 * f)) + n1) (v := σ0.2.1 64 (σ.2.1 18 (((144 * r) + (12 * f)) + n1))) dX12_renumber_195 (show mT[15]? = some (18, 0, 864) from rfl) (by omega) (by omega) (by decide) ?_
      refine tm_iinc (q0 := 1) (L' := [(3, .int (iI (n1 + 1))), (4, .int (iI (((144 * r) + (12 * f)) + n1))), (2, .int (iI f)), (0, .ref b), (1, .int (iI r))]) dX12_renumber_196 rfl (by decide) rfl ?_
      refine tm_goto (tgt := 143) dX12_renumber_199 (by decide) ?_
      exact tm_sub [0, 2, 3, 4] rfl (ih _ (by omega) (n1 + 1) (sA 18 (((144 * r) + (12 * f)) + n1) (σ0.2.1 64 (σ.2.1 18 (((144 * r) + (12 * f)) + n1))) σ) ((Fr.rfl.trans (Fr.sub hF (by decide) (by decide) (by decide))).A (by decide)) (hR.A (by omega)) (by omega) (okf_put hof (by omega)) (hxn.put (by omega)) rfl)
theorem dX12_renumber_131 : decode cX12_renumber 131 = .ok (.iload_n 2, 1) := by decide +kernel
theorem dX12_renumber_132 : decode cX12_renumber 132 = .ok (.aload_n 0, 1) := by decide +kernel
theorem dX12_renumber_133 : decode cX12_renumber 133 = .ok (.getfield 44, 3) := by decide +kernel
theorem dX12_renumber_136 : decode cX12_renumber 136 = .ok (.iload_n 1, 1) := by decide +kernel
theorem dX12_renumber_137 : decode cX12_renumber 137 = .ok (.iaload, 1) := by decide +kernel
theorem dX12_renumber_138 : decode cX12_renumber 138 = .ok (.if_icmp .ge 70, 3) := by decide +kernel
theorem dX12_renumber_141 : decode cX12_renumber 141 = .ok (.iconst 0, 1) := by decide +kernel
theorem dX12_renumber_142 : decode cX12_renumber 142 = .ok (.istore_n 3, 1) := by decide +kernel
theorem dX12_renumber_202 : decode cX12_renumber 202 = .ok (.iinc 2 1, 3) := by decide +kernel
theorem dX12_renumber_205 : decode cX12_renumber 205 = .ok (.goto (-74), 3) := by decide +kernel
set_option maxHeartbeats 4000000 in
set_option maxRecDepth 20000 in
theorem l_ren3 (d : Nat) {b : Nat} {σ0 : MS} {r : Int} {post : Option Value → MS → Prop} (hr : 0 ≤ r ∧ r < 6) (hR0 : RG σ0) (hnam : NAM σ0) (hnu : NUM σ0) (hx_208 : ∀ (f : Int) (σ : MS) , (Fr [] [18] [] σ0 σ) → (RG σ) → (OKF σ r) → (XN r σ0 σ) → Tm (d + 1) m_X12_renumber 208 b σ [(2, .int (iI f)), (0, .ref b), (1, .int (iI r))] [] post) : ∀ (n : Nat) (f : Int) (σ : MS) , (Fr [] [18] [] σ0 σ) → (RG σ) → (0 ≤ f ∧ f ≤ 12) → (OKF σ r) → (XN r σ0 σ) → (12 - f).toNat = n → Tm (d + 1) m_X12_renumber 131 b σ [(2, .int (iI f)), (0, .ref b), (1, .int (iI r))] [] post := by
  intro n
  induction n using Nat.strongRecOn with
  | _ n ih =>
    intro f σ hF hR h0 hof hxn hm
    have q1 := hof.1
    have e14 : σ.2.1 14 = σ0.2.1 14 := hF.2.1 14 (by decide)
    have e15 : σ.2.1 15 = σ0.2.1 15 := hF.2.1 15 (by decide)
    have e12 : σ.2.1 12 = σ0.2.1 12 := hF.2.1 12 (by decide)
    rw [e14] at q1
    refine tm_iload_n dX12_renumber_131 rfl 0 rfl ?_
    refine tm_aload_n dX12_renumber_132 rfl 1 rfl ?_
    refine tm_get (k := 14) (v := .ref (b + 1 + 11)) lay_12 dX12_renumber_133 (by decide) fl12_44 rfl ?_
    refine tm_iload_n dX12_renumber_136 rfl 2 rfl ?_
    refine tm_iald (z := r) (v := σ0.2.1 14 r) dX12_renumber_137 (show mT[11]? = some (14, 0, 6) from rfl) (by omega) (by omega) (by decide) (ra_F hF (by decide) (rfl)) ?_
    have g1 := RG.a hR0 14 (r)
    refine tm_icmp_ge (tgt := 208) dX12_renumber_138 (by decide) ⟨by omega, by omega⟩ ⟨by omega, by omega⟩ (fun h2 => ?_) (fun h2 => ?_)
    · exact tm_sub [0, 1, 2] rfl (hx_208 (f) σ (Fr.rfl.trans (Fr.sub hF (by decide) (by decide) (by decide))) hR hof hxn)
    · refine tm_iconst dX12_renumber_141 ?_
      refine tm_istore_n (L' := [(3, .int (iI 0)), (2, .int (iI f)), (0, .ref b), (1, .int (iI r))]) dX12_renumber_142 rfl (by decide) rfl ?_
      refine tm_sub [0, 1, 2, 3] rfl (l_ren4 (d) (σ0 := σ) (r := r) (f := f) hr hR (hnam.fr hF (by decide)) (hnu.fr hF (by decide)) (by rw [e14]; omega) (fun n19 σ10 F5 R6 f7 f8 => ?_) _ (0) σ Fr.rfl hR (by omega) hof XN.rfl rfl)
      show Tm _ _ 202 b σ10 [(3, .int (iI n19)), (2, .int (iI f)), (0, .ref b), (1, .int (iI r))] [] _
      refine tm_iinc (q0 := 1) (L' := [(2, .int (iI (f + 1))), (3, .int (iI n19)), (0, .ref b), (1, .int (iI r))]) dX12_renumber_202 rfl (by decide) rfl ?_
      refine tm_goto (tgt := 131) dX12_renumber_205 (by decide) ?_
      exact tm_sub [0, 2, 3] rfl (ih _ (by omega) (f + 1) σ10 ((Fr.rfl.trans (Fr.sub hF (by decide) (by decide) (by decide))).trans (Fr.sub F5 (by decide) (by decide) (by decide))) R6 (by omega) f7 (fun z hz => (f8 z hz).trans (hxn z hz)) rfl)
theorem dX12_renumber_0 : decode cX12_renumber 0 = .ok (.iconst 0, 1) := by decide +kernel
theorem dX12_renumber_1 : decode cX12_renumber 1 = .ok (.istore_n 2, 1) := by decide +kernel
theorem dX12_renumber_129 : decode cX12_renumber 129 = .ok (.iconst 0, 1) := by decide +kernel
theorem dX12_renumber_130 : decode cX12_renumber 130 = .ok (.istore_n 2, 1) := by decide +kernel
theorem dX12_renumber_208 : decode cX12_renumber 208 = .ok (.return_, 1) := by decide +kernel
set_option maxHeartbeats 4000000 in
set_option maxRecDepth 20000 in
theorem c_X12_renumber (d : Nat) {b : Nat} {σ : MS} {r : Int} {F : Int} (hr : 0 ≤ r ∧ r < 6) (hR : RG σ) (hit : ITM σ) (hpar : PAR σ) (hnam : NAM σ) (hnu : NUM σ) (hok : OKS σ F r) (hof : OKF σ r) : Tm (d + 4) m_X12_renumber 0 b σ [(0, .ref b), (1, .int (iI r))] [] (fun ro σ2 => ro = none ∧ (Fr [] [4, 8, 18] [] σ σ2) ∧ (RG σ2) ∧ (OKS σ2 F r) ∧ (OKF σ2 r) ∧ (XO r σ σ2) ∧ (XN r σ σ2) ∧ (DK σ σ2)) := by
  have q1 := hit r (by omega) (by omega)
  refine tm_iconst dX12_renumber_0 ?_
  refine tm_istore_n (L' := [(2, .int (iI 0)), (0, .ref b), (1, .int (iI r))]) dX12_renumber_1 rfl (by decide) rfl ?_
  refine tm_sub [0, 1, 2] rfl (l_ren1 (d) (σ0 := σ) (r := r) (F := F) hr hR hit hpar hnu (fun k8 σ9 F3 R4 f5 f6 f7 => ?_) _ (0) σ Fr.rfl hR (by omega) hok XO.rfl DK.rfl rfl)
  show Tm _ _ 129 b σ9 [(2, .int (iI k8)), (0, .ref b), (1, .int (iI r))] [] _
  have hok1 := f5
  have hxo1 := f6
  have hdk1 := f7
  refine tm_iconst dX12_renumber_129 ?_
  refine tm_istore_n (L' := [(2, .int (iI 0)), (0, .ref b), (1, .int (iI r))]) dX12_renumber_130 rfl (by decide) rfl ?_
  refine tm_sub [0, 1, 2] rfl (l_ren3 (d + 3) (σ0 := σ9) (r := r) hr R4 (hnam.fr (show Fr [] [4, 8] [] σ σ9 from (Fr.rfl.trans (Fr.sub F3 (by decide) (by decide) (by decide)))) (by decide)) (hnu.fr (show Fr [] [4, 8] [] σ σ9 from (Fr.rfl.trans (Fr.sub F3 (by decide) (by decide) (by decide)))) (by decide)) (fun f16 σ17 F12 R13 f14 f15 => ?_) _ (0) σ9 Fr.rfl R4 (by omega) (hof.fr (show Fr [] [4, 8] [] σ σ9 from (Fr.rfl.trans (Fr.sub F3 (by decide) (by decide) (by decide)))) (by decide)) XN.rfl rfl)
  show Tm _ _ 208 b σ17 [(2, .int (iI f16)), (0, .ref b), (1, .int (iI r))] [] _
  exact tm_vret rfl dX12_renumber_208 (⟨rfl, ((Fr.rfl.trans (Fr.sub F3 (by decide) (by decide) (by decide))).trans (Fr.sub F12 (by decide) (by decide) (by decide))), R13, hok1.fr F12 (by decide), f14, hxo1.trans (XO.fr F12 (by decide)), fun z hz => (f15 z hz).trans (by rw [F3.2.1 18 (by decide)]), hdk1.t F12 (by decide)⟩)
end
section
theorem cst12_139 : Cond.constant RX12 139 (36864) ∈ pWW := pw7 (List.mem_of_getElem? (i := 6) rfl) rfl
theorem dX12_share_7 : decode cX12_share 7 = .ok (.iload_n 2, 1) := by decide +kernel
theorem dX12_share_8 : decode cX12_share 8 = .ok (.ldc 139, 2) := by decide +kernel
theorem dX12_share_10 : decode cX12_share 10 = .ok (.if_icmp .ge 16, 3) := by decide +kernel
theorem dX12_share_13 : decode cX12_share 13 = .ok (.aload_n 0, 1) := by decide +kernel
theorem dX12_share_14 : decode cX12_share 14 = .ok (.getfield 140, 3) := by decide +kernel
theorem dX12_share_17 : decode cX12_share 17 = .ok (.iload_n 2, 1) := by decide +kernel
theorem dX12_share_18 : decode cX12_share 18 = .ok (.iconst 0, 1) := by decide +kernel
theorem dX12_share_19 : decode cX12_share 19 = .ok (.bastore, 1) := by decide +kernel
theorem dX12_share_20 : decode cX12_share 20 = .ok (.iinc 2 1, 3) := by decide +kernel
theorem dX12_share_23 : decode cX12_share 23 = .ok (.goto (-16), 3) := by decide +kernel
set_option maxHeartbeats 4000000 in
set_option maxRecDepth 20000 in
theorem l_sh1 (d : Nat) {b : Nat} {σ0 : MS} {r : Int} {post : Option Value → MS → Prop} (hx_26 : ∀ (k : Int) (σ : MS) , (Fr [] [63] [] σ0 σ) → (RG σ) → (BO 63 σ) → Tm (d + 1) m_X12_share 26 b σ [(2, .int (iI k)), (0, .ref b), (1, .int (iI r))] [] post) : ∀ (n : Nat) (k : Int) (σ : MS) , (Fr [] [63] [] σ0 σ) → (RG σ) → (0 ≤ k ∧ k ≤ 36864) → (BO 63 σ) → (36864 - k).toNat = n → Tm (d + 1) m_X12_share 7 b σ [(2, .int (iI k)), (0, .ref b), (1, .int (iI r))] [] post := by
  intro n
  induction n using Nat.strongRecOn with
  | _ n ih =>
    intro k σ hF hR h0 hbd hm
    refine tm_iload_n dX12_share_7 rfl 0 rfl ?_
    refine tm_ldc (n := 36864) dX12_share_8 cst12_139 rfl ?_
    refine tm_icmp_ge (tgt := 26) dX12_share_10 (by decide) ⟨by omega, by omega⟩ ⟨by decide, by decide⟩ (fun h1 => ?_) (fun h1 => ?_)
    · exact tm_sub [0, 1, 2] rfl (hx_26 (k) σ (Fr.rfl.trans (Fr.sub hF (by decide) (by decide) (by decide))) hR hbd)
    · refine tm_aload_n dX12_share_13 rfl 1 rfl ?_
      refine tm_get (k := 63) (v := .ref (b + 1 + 40)) lay_12 dX12_share_14 (by decide) fl12_140 rfl ?_
      refine tm_iload_n dX12_share_17 rfl 0 rfl ?_
      refine tm_iconst dX12_share_18 ?_
      refine tm_zast (z := k) (v := 0) dX12_share_19 (show mT[40]? = some (63, 2, 36864) from rfl) (by omega) (by omega) (by decide) (by omega) ?_
      refine tm_iinc (q0 := 0) (L' := [(2, .int (iI (k + 1))), (0, .ref b), (1, .int (iI r))]) dX12_share_20 rfl (by decide) rfl ?_
      refine tm_goto (tgt := 7) dX12_share_23 (by decide) ?_
      exact tm_sub [0, 1, 2] rfl (ih _ (by omega) (k + 1) (sA 63 (k) (0) σ) ((Fr.rfl.trans (Fr.sub hF (by decide) (by decide) (by decide))).A (by decide)) (hR.A (by omega)) (by omega) (hbd.A (by omega)) rfl)
theorem ml12_524 : Cond.methodLink RX12 524 yX12_atOdds ∈ pWW := pw9 (List.mem_of_getElem? (i := 217) rfl) rfl
theorem dX12_share_37 : decode cX12_share 37 = .ok (.iload_n 3, 1) := by decide +kernel
theorem dX12_share_38 : decode cX12_share 38 = .ok (.iload_n 2, 1) := by decide +kernel
theorem dX12_share_39 : decode cX12_share 39 = .ok (.if_icmp .ge 33, 3) := by decide +kernel
theorem dX12_share_42 : decode cX12_share 42 = .ok (.aload_n 0, 1) := by decide +kernel
theorem dX12_share_43 : decode cX12_share 43 = .ok (.iload_n 1, 1) := by decide +kernel
theorem dX12_share_44 : decode cX12_share 44 = .ok (.iload_n 2, 1) := by decide +kernel
theorem dX12_share_45 : decode cX12_share 45 = .ok (.invokevirtual 521, 3) := by decide +kernel
theorem dX12_share_48 : decode cX12_share 48 = .ok (.ifCond .eq 24, 3) := by decide +kernel
theorem dX12_share_51 : decode cX12_share 51 = .ok (.aload_n 0, 1) := by decide +kernel
theorem dX12_share_52 : decode cX12_share 52 = .ok (.iload_n 1, 1) := by decide +kernel
theorem dX12_share_53 : decode cX12_share 53 = .ok (.iload_n 3, 1) := by decide +kernel
theorem dX12_share_54 : decode cX12_share 54 = .ok (.invokevirtual 521, 3) := by decide +kernel
theorem dX12_share_57 : decode cX12_share 57 = .ok (.ifCond .eq 9, 3) := by decide +kernel
theorem dX12_share_66 : decode cX12_share 66 = .ok (.iinc 3 1, 3) := by decide +kernel
theorem dX12_share_69 : decode cX12_share 69 = .ok (.goto (-32), 3) := by decide +kernel
theorem dX12_share_60 : decode cX12_share 60 = .ok (.aload_n 0, 1) := by decide +kernel
theorem dX12_share_61 : decode cX12_share 61 = .ok (.iload_n 2, 1) := by decide +kernel
theorem dX12_share_62 : decode cX12_share 62 = .ok (.iload_n 3, 1) := by decide +kernel
theorem dX12_share_63 : decode cX12_share 63 = .ok (.invokevirtual 524, 3) := by decide +kernel
set_option maxHeartbeats 4000000 in
set_option maxRecDepth 20000 in
theorem l_sh3 (d : Nat) {b : Nat} {σ0 : MS} {r : Int} {a1 : Int} {post : Option Value → MS → Prop} (hr : 0 ≤ r ∧ r < 6) (hR0 : RG σ0) (hpar : PAR σ0) (hbl : BO 59 σ0) (ha : 0 ≤ a1 ∧ a1 < 192) (hx_72 : ∀ (c1 : Int) (σ : MS) , (Fr [] [63] [] σ0 σ) → (RG σ) → (BO 63 σ) → Tm (d + 3) m_X12_share 72 b σ [(3, .int (iI c1)), (2, .int (iI a1)), (0, .ref b), (1, .int (iI r))] [] post) : ∀ (n : Nat) (c1 : Int) (σ : MS) , (Fr [] [63] [] σ0 σ) → (RG σ) → (0 ≤ c1 ∧ c1 ≤ a1) → (BO 63 σ) → (a1 - c1).toNat = n → Tm (d + 3) m_X12_share 37 b σ [(3, .int (iI c1)), (2, .int (iI a1)), (0, .ref b), (1, .int (iI r))] [] post := by
  intro n
  induction n using Nat.strongRecOn with
  | _ n ih =>
    intro c1 σ hF hR h0 hbd hm
    refine tm_iload_n dX12_share_37 rfl 0 rfl ?_
    refine tm_iload_n dX12_share_38 rfl 1 rfl ?_
    refine tm_icmp_ge (tgt := 72) dX12_share_39 (by decide) ⟨by omega, by omega⟩ ⟨by omega, by omega⟩ (fun h1 => ?_) (fun h1 => ?_)
    · exact tm_sub [0, 1, 2, 3] rfl (hx_72 (c1) σ (Fr.rfl.trans (Fr.sub hF (by decide) (by decide) (by decide))) hR hbd)
    · refine tm_aload_n dX12_share_42 rfl 2 rfl ?_
      refine tm_iload_n dX12_share_43 rfl 3 rfl ?_
      refine tm_iload_n dX12_share_44 rfl 1 rfl ?_
      refine tm_callV (M := m_X12_share) (pc := 45) (ix := 521) (M' := m_X12_isAtBegin) (As := [.int (iI r), .int (iI a1)]) (rest := []) dX12_share_45 ok_X12_isAtBegin im_X12_isAtBegin se_X12_isAtBegin ml12_521 np_X12_isAtBegin rfl rfl (Nat.le_of_ble_eq_true rfl) (Nat.le_of_ble_eq_true rfl) rfl (c_X12_isAtBegin (d) (σ := σ) (r := r) (g := a1) (by omega) hR (hpar.fr hF (by decide)) (hbl.fr hF (by decide)) (by omega)) (fun r2 σ3 hp => ?_)
      obtain ⟨v4, rfl, rfl, f5⟩ := hp
      show Tm _ _ 48 b σ [(3, .int (iI c1)), (2, .int (iI a1)), (0, .ref b), (1, .int (iI r))] [.int (iI v4)] _
      refine tm_if_eq (tgt := 72) dX12_share_48 (by decide) ⟨by omega, by omega⟩ (fun h6 => ?_) (fun h6 => ?_)
      · exact tm_sub [0, 1, 2, 3] rfl (hx_72 (c1) σ (Fr.rfl.trans (Fr.sub hF (by decide) (by decide) (by decide))) hR hbd)
      · refine tm_aload_n dX12_share_51 rfl 2 rfl ?_
        refine tm_iload_n dX12_share_52 rfl 3 rfl ?_
        refine tm_iload_n dX12_share_53 rfl 0 rfl ?_
        refine tm_callV (M := m_X12_share) (pc := 54) (ix := 521) (M' := m_X12_isAtBegin) (As := [.int (iI r), .int (iI c1)]) (rest := []) dX12_share_54 ok_X12_isAtBegin im_X12_isAtBegin se_X12_isAtBegin ml12_521 np_X12_isAtBegin rfl rfl (Nat.le_of_ble_eq_true rfl) (Nat.le_of_ble_eq_true rfl) rfl (c_X12_isAtBegin (d) (σ := σ) (r := r) (g := c1) (by omega) hR (hpar.fr hF (by decide)) (hbl.fr hF (by decide)) (by omega)) (fun r7 σ8 hp => ?_)
        obtain ⟨v9, rfl, rfl, f10⟩ := hp
        show Tm _ _ 57 b σ [(3, .int (iI c1)), (2, .int (iI a1)), (0, .ref b), (1, .int (iI r))] [.int (iI v9)] _
        refine tm_if_eq (tgt := 66) dX12_share_57 (by decide) ⟨by omega, by omega⟩ (fun h11 => ?_) (fun h11 => ?_)
        · refine tm_iinc (q0 := 0) (L' := [(3, .int (iI (c1 + 1))), (2, .int (iI a1)), (0, .ref b), (1, .int (iI r))]) dX12_share_66 rfl (by decide) rfl ?_
          refine tm_goto (tgt := 37) dX12_share_69 (by decide) ?_
          exact tm_sub [0, 1, 2, 3] rfl (ih _ (by omega) (c1 + 1) σ (Fr.rfl.trans (Fr.sub hF (by decide) (by decide) (by decide))) hR (by omega) hbd rfl)
        · refine tm_aload_n dX12_share_60 rfl 2 rfl ?_
          refine tm_iload_n dX12_share_61 rfl 1 rfl ?_
          refine tm_iload_n dX12_share_62 rfl 0 rfl ?_
          refine tm_callV (M := m_X12_share) (pc := 63) (ix := 524) (M' := m_X12_atOdds) (As := [.int (iI a1), .int (iI c1)]) (rest := []) dX12_share_63 ok_X12_atOdds im_X12_atOdds se_X12_atOdds ml12_524 np_X12_atOdds rfl rfl (Nat.le_of_ble_eq_true rfl) (Nat.le_of_ble_eq_true rfl) rfl (c_X12_atOdds (d + 1) (σ := σ) (x := a1) (y := c1) (by omega) (by omega) hR hbd) (fun r12 σ13 hp => ?_)
          obtain ⟨rfl, f15, f16, f17⟩ := hp
          show Tm _ _ 66 b σ13 [(3, .int (iI c1)), (2, .int (iI a1)), (0, .ref b), (1, .int (iI r))] [] _
          refine tm_iinc (q0 := 0) (L' := [(3, .int (iI (c1 + 1))), (2, .int (iI a1)), (0, .ref b), (1, .int (iI r))]) dX12_share_66 rfl (by decide) rfl ?_
          refine tm_goto (tgt := 37) dX12_share_69 (by decide) ?_
          exact tm_sub [0, 1, 2, 3] rfl (ih _ (by omega) (c1 + 1) σ13 ((Fr.rfl.trans (Fr.sub hF (by decide) (by decide) (by decide))).trans (Fr.sub f15 (by decide) (by decide) (by decide))) f16 (by omega) (by assumption) rfl)
theorem dX12_share_28 : decode cX12_share 28 = .ok (.iload_n 2, 1) := by decide +kernel
theorem dX12_share_29 : decode cX12_share 29 = .ok (.sipush 192, 3) := by decide +kernel
theorem dX12_share_32 : decode cX12_share 32 = .ok (.if_icmp .ge 46, 3) := by decide +kernel
theorem dX12_share_35 : decode cX12_share 35 = .ok (.iconst 0, 1) := by decide +kernel
theorem dX12_share_36 : decode cX12_share 36 = .ok (.istore_n 3, 1) := by decide +kernel
theorem dX12_share_72 : decode cX12_share 72 = .ok (.iinc 2 1, 3) := by decide +kernel
theorem dX12_share_75 : decode cX12_share 75 = .ok (.goto (-47), 3) := by decide +kernel
set_option maxHeartbeats 4000000 in
set_option maxRecDepth 20000 in
theorem l_sh2 (d : Nat) {b : Nat} {σ0 : MS} {r : Int} {post : Option Value → MS → Prop} (hr : 0 ≤ r ∧ r < 6) (hR0 : RG σ0) (hpar : PAR σ0) (hbl : BO 59 σ0) (hx_78 : ∀ (a1 : Int) (σ : MS) , (Fr [] [63] [] σ0 σ) → (RG σ) → (BO 63 σ) → Tm (d + 3) m_X12_share 78 b σ [(2, .int (iI a1)), (0, .ref b), (1, .int (iI r))] [] post) : ∀ (n : Nat) (a1 : Int) (σ : MS) , (Fr [] [63] [] σ0 σ) → (RG σ) → (0 ≤ a1 ∧ a1 ≤ 192) → (BO 63 σ) → (192 - a1).toNat = n → Tm (d + 3) m_X12_share 28 b σ [(2, .int (iI a1)), (0, .ref b), (1, .int (iI r))] [] post := by
  intro n
  induction n using Nat.strongRecOn with
  | _ n ih =>
    intro a1 σ hF hR h0 hbd hm
    refine tm_iload_n dX12_share_28 rfl 0 rfl ?_
    refine tm_sipush dX12_share_29 (by decide) ?_
    refine tm_icmp_ge (tgt := 78) dX12_share_32 (by decide) ⟨by omega, by omega⟩ ⟨by decide, by decide⟩ (fun h1 => ?_) (fun h1 => ?_)
    · exact tm_sub [0, 1, 2] rfl (hx_78 (a1) σ (Fr.rfl.trans (Fr.sub hF (by decide) (by decide) (by decide))) hR hbd)
    · refine tm_iconst dX12_share_35 ?_
      refine tm_istore_n (L' := [(3, .int (iI 0)), (2, .int (iI a1)), (0, .ref b), (1, .int (iI r))]) dX12_share_36 rfl (by decide) rfl ?_
      refine tm_sub [0, 1, 2, 3] rfl (l_sh3 (d) (σ0 := σ) (r := r) (a1 := a1) hr hR (hpar.fr hF (by decide)) (hbl.fr hF (by decide)) (by omega) (fun c17 σ8 F4 R5 f6 => ?_) _ (0) σ Fr.rfl hR (by omega) hbd rfl)
      show Tm _ _ 72 b σ8 [(3, .int (iI c17)), (2, .int (iI a1)), (0, .ref b), (1, .int (iI r))] [] _
      refine tm_iinc (q0 := 1) (L' := [(2, .int (iI (a1 + 1))), (3, .int (iI c17)), (0, .ref b), (1, .int (iI r))]) dX12_share_72 rfl (by decide) rfl ?_
      refine tm_goto (tgt := 28) dX12_share_75 (by decide) ?_
      exact tm_sub [0, 2, 3] rfl (ih _ (by omega) (a1 + 1) σ8 ((Fr.rfl.trans (Fr.sub hF (by decide) (by decide) (by decide))).trans (Fr.sub F4 (by decide) (by decide) (by decide))) R5 (by omega) (by assumption) rfl)
theorem dX12_share_100 : decode cX12_share 100 = .ok (.iload 4, 2) := by decide +kernel
theorem dX12_share_102 : decode cX12_share 102 = .ok (.sipush 192, 3) := by decide +kernel
theorem dX12_share_105 : decode cX12_share 105 = .ok (.if_icmp .ge 44, 3) := by decide +kernel
theorem dX12_share_108 : decode cX12_share 108 = .ok (.aload_n 0, 1) := by decide +kernel
theorem dX12_share_109 : decode cX12_share 109 = .ok (.getfield 13, 3) := by decide +kernel
theorem dX12_share_112 : decode cX12_share 112 = .ok (.iload_n 3, 1) := by decide +kernel
theorem dX12_share_113 : decode cX12_share 113 = .ok (.iaload, 1) := by decide +kernel
theorem dX12_share_114 : decode cX12_share 114 = .ok (.invokestatic 192, 3) := by decide +kernel
theorem dX12_share_117 : decode cX12_share 117 = .ok (.ifCond .eq 32, 3) := by decide +kernel
theorem dX12_share_120 : decode cX12_share 120 = .ok (.aload_n 0, 1) := by decide +kernel
theorem dX12_share_121 : decode cX12_share 121 = .ok (.iload_n 1, 1) := by decide +kernel
theorem dX12_share_122 : decode cX12_share 122 = .ok (.iload_n 2, 1) := by decide +kernel
theorem dX12_share_123 : decode cX12_share 123 = .ok (.iload 4, 2) := by decide +kernel
theorem dX12_share_125 : decode cX12_share 125 = .ok (.invokevirtual 433, 3) := by decide +kernel
theorem dX12_share_128 : decode cX12_share 128 = .ok (.ifCond .eq 15, 3) := by decide +kernel
theorem dX12_share_143 : decode cX12_share 143 = .ok (.iinc 4 1, 3) := by decide +kernel
theorem dX12_share_146 : decode cX12_share 146 = .ok (.goto (-46), 3) := by decide +kernel
theorem dX12_share_131 : decode cX12_share 131 = .ok (.aload_n 0, 1) := by decide +kernel
theorem dX12_share_132 : decode cX12_share 132 = .ok (.aload_n 0, 1) := by decide +kernel
theorem dX12_share_133 : decode cX12_share 133 = .ok (.getfield 17, 3) := by decide +kernel
theorem dX12_share_136 : decode cX12_share 136 = .ok (.iload_n 3, 1) := by decide +kernel
theorem dX12_share_137 : decode cX12_share 137 = .ok (.iaload, 1) := by decide +kernel
theorem dX12_share_138 : decode cX12_share 138 = .ok (.iload 4, 2) := by decide +kernel
theorem dX12_share_140 : decode cX12_share 140 = .ok (.invokevirtual 524, 3) := by decide +kernel
set_option maxHeartbeats 4000000 in
set_option maxRecDepth 20000 in
theorem l_sh5 (d : Nat) {b : Nat} {σ0 : MS} {r : Int} {F : Int} {k : Int} {post : Option Value → MS → Prop} (hr : 0 ≤ r ∧ r < 6) (hR0 : RG σ0) (hit : ITM σ0) (hok : OKS σ0 F r) (hbl : BO 59 σ0) (hl : LAB σ0) (hk : 0 ≤ k ∧ k < σ0.2.1 9 r) (hx_149 : ∀ (g : Int) (σ : MS) , (Fr [] [63] [] σ0 σ) → (RG σ) → (BO 63 σ) → Tm (d + 4) m_X12_share 149 b σ [(4, .int (iI g)), (3, .int (iI (220 * r + k))), (2, .int (iI k)), (0, .ref b), (1, .int (iI r))] [] post) : ∀ (n : Nat) (g : Int) (σ : MS) , (Fr [] [63] [] σ0 σ) → (RG σ) → (0 ≤ g ∧ g ≤ 192) → (BO 63 σ) → (192 - g).toNat = n → Tm (d + 4) m_X12_share 100 b σ [(4, .int (iI g)), (3, .int (iI (220 * r + k))), (2, .int (iI k)), (0, .ref b), (1, .int (iI r))] [] post := by
  intro n
  induction n using Nat.strongRecOn with
  | _ n ih =>
    intro g σ hF hR h0 hbd hm
    have hit1 := hit.fr hF (by decide)
    have hok1 := hok.fr hF (by decide)
    have q1 := hit r (by omega) (by omega)
    have q9 : σ.2.1 9 r = σ0.2.1 9 r := by rw [hF.2.1 9 (by decide)]
    refine tm_iload dX12_share_100 0 rfl ?_
    refine tm_sipush dX12_share_102 (by decide) ?_
    refine tm_icmp_ge (tgt := 149) dX12_share_105 (by decide) ⟨by omega, by omega⟩ ⟨by decide, by decide⟩ (fun h1 => ?_) (fun h1 => ?_)
    · exact tm_sub [0, 1, 2, 3, 4] rfl (hx_149 (g) σ (Fr.rfl.trans (Fr.sub hF (by decide) (by decide) (by decide))) hR hbd)
    · refine tm_aload_n dX12_share_108 rfl 3 rfl ?_
      refine tm_get (k := 3) (v := .ref (b + 1 + 1)) lay_12 dX12_share_109 (by decide) fl12_13 rfl ?_
      refine tm_iload_n dX12_share_112 rfl 1 rfl ?_
      refine tm_iald (z := 220 * r + k) (v := σ0.2.1 3 (220 * r + k)) dX12_share_113 (show mT[1]? = some (3, 0, 2860) from rfl) (by omega) (by omega) (by decide) (ra_F hF (by decide) (rfl)) ?_
      have g2 := RG.a hR0 3 (220 * r + k)
      refine tm_callS (M := m_X12_share) (pc := 114) (ix := 192) (M' := m_X12_writes) (As := [.int (iI (σ0.2.1 3 (220 * r + k)))]) (rest := []) dX12_share_114 ok_X12_writes stt_X12_writes ml12_192 np_X12_writes rfl (Nat.le_of_ble_eq_true rfl) (Nat.le_of_ble_eq_true rfl) rfl (c_X12_writes (d + 2) (σ := σ) (x := σ0.2.1 3 (220 * r + k)) (by omega)) (fun r3 σ4 hp => ?_)
      obtain ⟨v5, rfl, rfl, f6, f7⟩ := hp
      show Tm _ _ 117 b σ [(4, .int (iI g)), (3, .int (iI (220 * r + k))), (2, .int (iI k)), (0, .ref b), (1, .int (iI r))] [.int (iI v5)] _
      refine tm_if_eq (tgt := 149) dX12_share_117 (by decide) ⟨by omega, by omega⟩ (fun h8 => ?_) (fun h8 => ?_)
      · exact tm_sub [0, 1, 2, 3, 4] rfl (hx_149 (g) σ (Fr.rfl.trans (Fr.sub hF (by decide) (by decide) (by decide))) hR hbd)
      · have q2 := hok.dest (k := k) (by omega) (by omega) (by omega)
        refine tm_aload_n dX12_share_120 rfl 3 rfl ?_
        refine tm_iload_n dX12_share_121 rfl 4 rfl ?_
        refine tm_iload_n dX12_share_122 rfl 2 rfl ?_
        refine tm_iload dX12_share_123 0 rfl ?_
        refine tm_callV (M := m_X12_share) (pc := 125) (ix := 433) (M' := m_X12_livesBehind) (As := [.int (iI r), .int (iI k), .int (iI g)]) (rest := []) dX12_share_125 ok_X12_livesBehind im_X12_livesBehind se_X12_livesBehind ml12_433 np_X12_livesBehind rfl rfl (Nat.le_of_ble_eq_true rfl) (Nat.le_of_ble_eq_true rfl) rfl (c_X12_livesBehind (d) (σ := σ) (r := r) (k := k) (g := g) (by omega) hR hit1 hok1.jmp (hbl.fr hF (by decide)) (hl.fr hF (by decide)) (by omega) (by omega)) (fun r9 σ10 hp => ?_)
        obtain ⟨v11, rfl, rfl, f12⟩ := hp
        show Tm _ _ 128 b σ [(4, .int (iI g)), (3, .int (iI (220 * r + k))), (2, .int (iI k)), (0, .ref b), (1, .int (iI r))] [.int (iI v11)] _
        refine tm_if_eq (tgt := 143) dX12_share_128 (by decide) ⟨by omega, by omega⟩ (fun h13 => ?_) (fun h13 => ?_)
        · refine tm_iinc (q0 := 0) (L' := [(4, .int (iI (g + 1))), (3, .int (iI (220 * r + k))), (2, .int (iI k)), (0, .ref b), (1, .int (iI r))]) dX12_share_143 rfl (by decide) rfl ?_
          refine tm_goto (tgt := 100) dX12_share_146 (by decide) ?_
          exact tm_sub [0, 1, 2, 3, 4] rfl (ih _ (by omega) (g + 1) σ (Fr.rfl.trans (Fr.sub hF (by decide) (by decide) (by decide))) hR (by omega) hbd rfl)
        · refine tm_aload_n dX12_share_131 rfl 3 rfl ?_
          refine tm_aload_n dX12_share_132 rfl 3 rfl ?_
          refine tm_get (k := 4) (v := .ref (b + 1 + 2)) lay_12 dX12_share_133 (by decide) fl12_17 rfl ?_
          refine tm_iload_n dX12_share_136 rfl 1 rfl ?_
          refine tm_iald (z := 220 * r + k) (v := σ0.2.1 4 (220 * r + k)) dX12_share_137 (show mT[2]? = some (4, 0, 2860) from rfl) (by omega) (by omega) (by decide) (ra_F hF (by decide) (rfl)) ?_
          have g14 := RG.a hR0 4 (220 * r + k)
          refine tm_iload dX12_share_138 0 rfl ?_
          refine tm_callV (M := m_X12_share) (pc := 140) (ix := 524) (M' := m_X12_atOdds) (As := [.int (iI (σ0.2.1 4 (220 * r + k))), .int (iI g)]) (rest := []) dX12_share_140 ok_X12_atOdds im_X12_atOdds se_X12_atOdds ml12_524 np_X12_atOdds rfl rfl (Nat.le_of_ble_eq_true rfl) (Nat.le_of_ble_eq_true rfl) rfl (c_X12_atOdds (d + 2) (σ := σ) (x := σ0.2.1 4 (220 * r + k)) (y := g) (by omega) (by omega) hR hbd) (fun r15 σ16 hp => ?_)
          obtain ⟨rfl, f18, f19, f20⟩ := hp
          show Tm _ _ 143 b σ16 [(4, .int (iI g)), (3, .int (iI (220 * r + k))), (2, .int (iI k)), (0, .ref b), (1, .int (iI r))] [] _
          refine tm_iinc (q0 := 0) (L' := [(4, .int (iI (g + 1))), (3, .int (iI (220 * r + k))), (2, .int (iI k)), (0, .ref b), (1, .int (iI r))]) dX12_share_143 rfl (by decide) rfl ?_
          refine tm_goto (tgt := 100) dX12_share_146 (by decide) ?_
          exact tm_sub [0, 1, 2, 3, 4] rfl (ih _ (by omega) (g + 1) σ16 ((Fr.rfl.trans (Fr.sub hF (by decide) (by decide) (by decide))).trans (Fr.sub f18 (by decide) (by decide) (by decide))) f19 (by omega) (by assumption) rfl)
theorem dX12_share_80 : decode cX12_share 80 = .ok (.iload_n 2, 1) := by decide +kernel
theorem dX12_share_81 : decode cX12_share 81 = .ok (.aload_n 0, 1) := by decide +kernel
theorem dX12_share_82 : decode cX12_share 82 = .ok (.getfield 32, 3) := by decide +kernel
theorem dX12_share_85 : decode cX12_share 85 = .ok (.iload_n 1, 1) := by decide +kernel
theorem dX12_share_86 : decode cX12_share 86 = .ok (.iaload, 1) := by decide +kernel
theorem dX12_share_87 : decode cX12_share 87 = .ok (.if_icmp .ge 68, 3) := by decide +kernel
theorem dX12_share_90 : decode cX12_share 90 = .ok (.aload_n 0, 1) := by decide +kernel
theorem dX12_share_91 : decode cX12_share 91 = .ok (.iload_n 1, 1) := by decide +kernel
theorem dX12_share_92 : decode cX12_share 92 = .ok (.iload_n 2, 1) := by decide +kernel
theorem dX12_share_93 : decode cX12_share 93 = .ok (.invokevirtual 203, 3) := by decide +kernel
theorem dX12_share_96 : decode cX12_share 96 = .ok (.istore_n 3, 1) := by decide +kernel
theorem dX12_share_97 : decode cX12_share 97 = .ok (.iconst 0, 1) := by decide +kernel
theorem dX12_share_98 : decode cX12_share 98 = .ok (.istore 4, 2) := by decide +kernel
theorem dX12_share_149 : decode cX12_share 149 = .ok (.iinc 2 1, 3) := by decide +kernel
theorem dX12_share_152 : decode cX12_share 152 = .ok (.goto (-72), 3) := by decide +kernel
set_option maxHeartbeats 4000000 in
set_option maxRecDepth 20000 in
theorem l_sh4 (d : Nat) {b : Nat} {σ0 : MS} {r : Int} {F : Int} {post : Option Value → MS → Prop} (hr : 0 ≤ r ∧ r < 6) (hR0 : RG σ0) (hit : ITM σ0) (hok : OKS σ0 F r) (hbl : BO 59 σ0) (hl : LAB σ0) (hx_155 : ∀ (k : Int) (σ : MS) , (Fr [] [63] [] σ0 σ) → (RG σ) → (BO 63 σ) → Tm (d + 4) m_X12_share 155 b σ [(2, .int (iI k)), (0, .ref b), (1, .int (iI r))] [] post) : ∀ (n : Nat) (k : Int) (σ : MS) , (Fr [] [63] [] σ0 σ) → (RG σ) → (0 ≤ k ∧ k ≤ σ0.2.1 9 r) → (BO 63 σ) → (220 - k).toNat = n → Tm (d + 4) m_X12_share 80 b σ [(2, .int (iI k)), (0, .ref b), (1, .int (iI r))] [] post := by
  intro n
  induction n using Nat.strongRecOn with
  | _ n ih =>
    intro k σ hF hR h0 hbd hm
    have hit1 := hit.fr hF (by decide)
    have hok1 := hok.fr hF (by decide)
    have q1 := hit r (by omega) (by omega)
    have q9 : σ.2.1 9 r = σ0.2.1 9 r := by rw [hF.2.1 9 (by decide)]
    refine tm_iload_n dX12_share_80 rfl 0 rfl ?_
    refine tm_aload_n dX12_share_81 rfl 1 rfl ?_
    refine tm_get (k := 9) (v := .ref (b + 1 + 7)) lay_12 dX12_share_82 (by decide) fl12_32 rfl ?_
    refine tm_iload_n dX12_share_85 rfl 2 rfl ?_
    refine tm_iald (z := r) (v := σ0.2.1 9 r) dX12_share_86 (show mT[7]? = some (9, 0, 13) from rfl) (by omega) (by omega) (by decide) (ra_F hF (by decide) (rfl)) ?_
    have g1 := RG.a hR0 9 (r)
    refine tm_icmp_ge (tgt := 155) dX12_share_87 (by decide) ⟨by omega, by omega⟩ ⟨by omega, by omega⟩ (fun h2 => ?_) (fun h2 => ?_)
    · exact tm_sub [0, 1, 2] rfl (hx_155 (k) σ (Fr.rfl.trans (Fr.sub hF (by decide) (by decide) (by decide))) hR hbd)
    · refine tm_aload_n dX12_share_90 rfl 1 rfl ?_
      refine tm_iload_n dX12_share_91 rfl 2 rfl ?_
      refine tm_iload_n dX12_share_92 rfl 0 rfl ?_
      refine tm_callV (M := m_X12_share) (pc := 93) (ix := 203) (M' := m_X12_at) (As := [.int (iI r), .int (iI k)]) (rest := []) dX12_share_93 ok_X12_at im_X12_at se_X12_at ml12_203 np_X12_at rfl rfl (Nat.le_of_ble_eq_true rfl) (Nat.le_of_ble_eq_true rfl) rfl (c_X12_at (d + 2) (σ := σ) (x := r) (k := k) ) (fun r3 σ4 hp => ?_)
      obtain ⟨v5, rfl, rfl, f6⟩ := hp
      subst f6
      show Tm _ _ 96 b σ [(2, .int (iI k)), (0, .ref b), (1, .int (iI r))] [.int (iI (220 * r + k))] _
      refine tm_istore_n (L' := [(3, .int (iI (220 * r + k))), (2, .int (iI k)), (0, .ref b), (1, .int (iI r))]) dX12_share_96 rfl (by decide) rfl ?_
      refine tm_iconst dX12_share_97 ?_
      refine tm_istore (L' := [(4, .int (iI 0)), (3, .int (iI (220 * r + k))), (2, .int (iI k)), (0, .ref b), (1, .int (iI r))]) dX12_share_98 (by decide) rfl ?_
      refine tm_sub [0, 1, 2, 3, 4] rfl (l_sh5 (d) (σ0 := σ) (r := r) (k := k) (F := F) hr hR hit1 hok1 (hbl.fr hF (by decide)) (hl.fr hF (by decide)) (by omega) (fun g12 σ13 F9 R10 f11 => ?_) _ (0) σ Fr.rfl hR (by omega) hbd rfl)
      show Tm _ _ 149 b σ13 [(4, .int (iI g12)), (3, .int (iI (220 * r + k))), (2, .int (iI k)), (0, .ref b), (1, .int (iI r))] [] _
      refine tm_iinc (q0 := 2) (L' := [(2, .int (iI (k + 1))), (4, .int (iI g12)), (3, .int (iI (220 * r + k))), (0, .ref b), (1, .int (iI r))]) dX12_share_149 rfl (by decide) rfl ?_
      refine tm_goto (tgt := 80) dX12_share_152 (by decide) ?_
      exact tm_sub [0, 3, 4] rfl (ih _ (by omega) (k + 1) σ13 ((Fr.rfl.trans (Fr.sub hF (by decide) (by decide) (by decide))).trans (Fr.sub F9 (by decide) (by decide) (by decide))) R10 (by omega) (by assumption) rfl)
theorem dX12_share_169 : decode cX12_share 169 = .ok (.iload 4, 2) := by decide +kernel
theorem dX12_share_171 : decode cX12_share 171 = .ok (.iload_n 2, 1) := by decide +kernel
theorem dX12_share_172 : decode cX12_share 172 = .ok (.if_icmp .ge 45, 3) := by decide +kernel
theorem dX12_share_175 : decode cX12_share 175 = .ok (.aload_n 0, 1) := by decide +kernel
theorem dX12_share_176 : decode cX12_share 176 = .ok (.getfield 140, 3) := by decide +kernel
theorem dX12_share_179 : decode cX12_share 179 = .ok (.sipush 192, 3) := by decide +kernel
theorem dX12_share_182 : decode cX12_share 182 = .ok (.iload_n 2, 1) := by decide +kernel
theorem dX12_share_183 : decode cX12_share 183 = .ok (.imul, 1) := by decide +kernel
theorem dX12_share_184 : decode cX12_share 184 = .ok (.iload 4, 2) := by decide +kernel
theorem dX12_share_186 : decode cX12_share 186 = .ok (.iadd, 1) := by decide +kernel
theorem dX12_share_187 : decode cX12_share 187 = .ok (.baload, 1) := by decide +kernel
theorem dX12_share_188 : decode cX12_share 188 = .ok (.ifCond .eq 23, 3) := by decide +kernel
theorem dX12_share_211 : decode cX12_share 211 = .ok (.iinc 4 1, 3) := by decide +kernel
theorem dX12_share_214 : decode cX12_share 214 = .ok (.goto (-45), 3) := by decide +kernel
theorem dX12_share_191 : decode cX12_share 191 = .ok (.aload_n 0, 1) := by decide +kernel
theorem dX12_share_192 : decode cX12_share 192 = .ok (.getfield 143, 3) := by decide +kernel
theorem dX12_share_195 : decode cX12_share 195 = .ok (.iload 4, 2) := by decide +kernel
theorem dX12_share_197 : decode cX12_share 197 = .ok (.iaload, 1) := by decide +kernel
theorem dX12_share_198 : decode cX12_share 198 = .ok (.iload_n 3, 1) := by decide +kernel
theorem dX12_share_199 : decode cX12_share 199 = .ok (.if_icmp .ne 12, 3) := by decide +kernel
theorem dX12_share_202 : decode cX12_share 202 = .ok (.iinc 3 1, 3) := by decide +kernel
theorem dX12_share_205 : decode cX12_share 205 = .ok (.iconst 0, 1) := by decide +kernel
theorem dX12_share_206 : decode cX12_share 206 = .ok (.istore 4, 2) := by decide +kernel
theorem dX12_share_208 : decode cX12_share 208 = .ok (.goto (-39), 3) := by decide +kernel
set_option maxHeartbeats 4000000 in
set_option maxRecDepth 20000 in
theorem l_sh7 (d : Nat) {b : Nat} {σ : MS} {r : Int} {g : Int} {post : Option Value → MS → Prop} (hR : RG σ) (hbd : BO 63 σ) (hnl : NUL σ) (hg : 0 ≤ g ∧ g < 192) (hx_217 : ∀ (n1 : Int) (c1 : Int) , (0 ≤ n1 ∧ n1 ≤ g) → Tm (d + 1) m_X12_share 217 b σ [(4, .int (iI c1)), (3, .int (iI n1)), (2, .int (iI g)), (0, .ref b), (1, .int (iI r))] [] post) : ∀ (n : Nat) (n1 : Int) (c1 : Int) , (0 ≤ n1 ∧ n1 ≤ g ∧ 0 ≤ c1 ∧ c1 ≤ g) → ((192 - n1) * 200 + (g - c1)).toNat = n → Tm (d + 1) m_X12_share 169 b σ [(4, .int (iI c1)), (3, .int (iI n1)), (2, .int (iI g)), (0, .ref b), (1, .int (iI r))] [] post := by
  intro n
  induction n using Nat.strongRecOn with
  | _ n ih =>
    intro n1 c1 h0 hm
    refine tm_iload dX12_share_169 0 rfl ?_
    refine tm_iload_n dX12_share_171 rfl 2 rfl ?_
    refine tm_icmp_ge (tgt := 217) dX12_share_172 (by decide) ⟨by omega, by omega⟩ ⟨by omega, by omega⟩ (fun h1 => ?_) (fun h1 => ?_)
    · exact tm_sub [0, 1, 2, 3, 4] rfl (hx_217 (n1) (c1) (by omega))
    · refine tm_aload_n dX12_share_175 rfl 3 rfl ?_
      refine tm_get (k := 63) (v := .ref (b + 1 + 40)) lay_12 dX12_share_176 (by decide) fl12_140 rfl ?_
      refine tm_sipush dX12_share_179 (by decide) ?_
      refine tm_iload_n dX12_share_182 rfl 2 rfl ?_
      refine tm_imul dX12_share_183 ?_
      refine tm_iload dX12_share_184 0 rfl ?_
      refine tm_iadd dX12_share_186 ?_
      refine tm_zald (z := (192 * g) + c1) (v := σ.2.1 63 ((192 * g) + c1)) dX12_share_187 (show mT[40]? = some (63, 2, 36864) from rfl) (by omega) (by omega) (by decide) (rfl) ?_
      have g2 := RG.a hR 63 ((192 * g) + c1)
      have := hbd ((192 * g) + c1)
      refine tm_if_eq (tgt := 211) dX12_share_188 (by decide) ⟨by omega, by omega⟩ (fun h3 => ?_) (fun h3 => ?_)
      · refine tm_iinc (q0 := 0) (L' := [(4, .int (iI (c1 + 1))), (3, .int (iI n1)), (2, .int (iI g)), (0, .ref b), (1, .int (iI r))]) dX12_share_211 rfl (by decide) rfl ?_
        refine tm_goto (tgt := 169) dX12_share_214 (by decide) ?_
        exact tm_sub [0, 1, 2, 3, 4] rfl (ih _ (by omega) (n1) (c1 + 1) (by omega) rfl)
      · refine tm_aload_n dX12_share_191 rfl 3 rfl ?_
        refine tm_get (k := 64) (v := .ref (b + 1 + 41)) lay_12 dX12_share_192 (by decide) fl12_143 rfl ?_
        refine tm_iload dX12_share_195 0 rfl ?_
        refine tm_iald (z := c1) (v := σ.2.1 64 c1) dX12_share_197 (show mT[41]? = some (64, 0, 192) from rfl) (by omega) (by omega) (by decide) (rfl) ?_
        have g4 := RG.a hR 64 (c1)
        have := hnl (c1) (by omega) (by omega)
        refine tm_iload_n dX12_share_198 rfl 1 rfl ?_
        refine tm_icmp_ne (tgt := 211) dX12_share_199 (by decide) ⟨by omega, by omega⟩ ⟨by omega, by omega⟩ (fun h5 => ?_) (fun h5 => ?_)
        · refine tm_iinc (q0 := 0) (L' := [(4, .int (iI (c1 + 1))), (3, .int (iI n1)), (2, .int (iI g)), (0, .ref b), (1, .int (iI r))]) dX12_share_211 rfl (by decide) rfl ?_
          refine tm_goto (tgt := 169) dX12_share_214 (by decide) ?_
          exact tm_sub [0, 1, 2, 3, 4] rfl (ih _ (by omega) (n1) (c1 + 1) (by omega) rfl)
        · refine tm_iinc (q0 := 1) (L' := [(3, .int (iI (n1 + 1))), (4, .int (iI c1)), (2, .int (iI g)), (0, .ref b), (1, .int (iI r))]) dX12_share_202 rfl (by decide) rfl ?_
          refine tm_iconst dX12_share_205 ?_
          refine tm_istore (L' := [(4, .int (iI 0)), (3, .int (iI (n1 + 1))), (2, .int (iI g)), (0, .ref b), (1, .int (iI r))]) dX12_share_206 (by decide) rfl ?_
          refine tm_goto (tgt := 169) dX12_share_208 (by decide) ?_
          exact tm_sub [0, 1, 2, 3, 4] rfl (ih _ (by omega) (n1 + 1) (0) (by omega) rfl)
theorem dX12_share_157 : decode cX12_share 157 = .ok (.iload_n 2, 1) := by decide +kernel
theorem dX12_share_158 : decode cX12_share 158 = .ok (.sipush 192, 3) := by decide +kernel
theorem dX12_share_161 : decode cX12_share 161 = .ok (.if_icmp .ge 69, 3) := by decide +kernel
theorem dX12_share_164 : decode cX12_share 164 = .ok (.iconst 0, 1) := by decide +kernel
theorem dX12_share_165 : decode cX12_share 165 = .ok (.istore_n 3, 1) := by decide +kernel
theorem dX12_share_166 : decode cX12_share 166 = .ok (.iconst 0, 1) := by decide +kernel
theorem dX12_share_167 : decode cX12_share 167 = .ok (.istore 4, 2) := by decide +kernel
theorem dX12_share_217 : decode cX12_share 217 = .ok (.aload_n 0, 1) := by decide +kernel
theorem dX12_share_218 : decode cX12_share 218 = .ok (.getfield 143, 3) := by decide +kernel
theorem dX12_share_221 : decode cX12_share 221 = .ok (.iload_n 2, 1) := by decide +kernel
theorem dX12_share_222 : decode cX12_share 222 = .ok (.iload_n 3, 1) := by decide +kernel
theorem dX12_share_223 : decode cX12_share 223 = .ok (.iastore, 1) := by decide +kernel
theorem dX12_share_224 : decode cX12_share 224 = .ok (.iinc 2 1, 3) := by decide +kernel
theorem dX12_share_227 : decode cX12_share 227 = .ok (.goto (-70), 3) := by decide +kernel
set_option maxHeartbeats 4000000 in
set_option maxRecDepth 20000 in
theorem l_sh6 (d : Nat) {b : Nat} {σ0 : MS} {r : Int} {post : Option Value → MS → Prop} (hR0 : RG σ0) (hbd : BO 63 σ0) (hx_230 : ∀ (g : Int) (σ : MS) , (Fr [] [64] [] σ0 σ) → (RG σ) → (NUL σ) → Tm (d + 1) m_X12_share 230 b σ [(2, .int (iI g)), (0, .ref b), (1, .int (iI r))] [] post) : ∀ (n : Nat) (g : Int) (σ : MS) , (Fr [] [64] [] σ0 σ) → (RG σ) → (0 ≤ g ∧ g ≤ 192) → (NUL σ) → (192 - g).toNat = n → Tm (d + 1) m_X12_share 157 b σ [(2, .int (iI g)), (0, .ref b), (1, .int (iI r))] [] post := by
  intro n
  induction n using Nat.strongRecOn with
  | _ n ih =>
    intro g σ hF hR h0 hnl hm
    refine tm_iload_n dX12_share_157 rfl 0 rfl ?_
    refine tm_sipush dX12_share_158 (by decide) ?_
    refine tm_icmp_ge (tgt := 230) dX12_share_161 (by decide) ⟨by omega, by omega⟩ ⟨by decide, by decide⟩ (fun h1 => ?_) (fun h1 => ?_)
    · exact tm_sub [0, 1, 2] rfl (hx_230 (g) σ (Fr.rfl.trans (Fr.sub hF (by decide) (by decide) (by decide))) hR hnl)
    · refine tm_iconst dX12_share_164 ?_
      refine tm_istore_n (L' := [(3, .int (iI 0)), (2, .int (iI g)), (0, .ref b), (1, .int (iI r))]) dX12_share_165 rfl (by decide) rfl ?_
      refine tm_iconst dX12_share_166 ?_
      refine tm_istore (L' := [(4, .int (iI 0)), (3, .int (iI 0)), (2, .int (iI g)), (0, .ref b), (1, .int (iI r))]) dX12_share_167 (by decide) rfl ?_
      refine tm_sub [0, 1, 2, 3, 4] rfl (l_sh7 (d) (σ := σ) (r := r) (g := g) hR (hbd.fr hF (by decide)) hnl (by omega) (fun n17 c18 f6 => ?_) _ (0) (0) (by omega) rfl)
      show Tm _ _ 217 b σ [(4, .int (iI c18)), (3, .int (iI n17)), (2, .int (iI g)), (0, .ref b), (1, .int (iI r))] [] _
      refine tm_aload_n dX12_share_217 rfl 3 rfl ?_
      refine tm_get (k := 64) (v := .ref (b + 1 + 41)) lay_12 dX12_share_218 (by decide) fl12_143 rfl ?_
      refine tm_iload_n dX12_share_221 rfl 2 rfl ?_
      refine tm_iload_n dX12_share_222 rfl 1 rfl ?_
      refine tm_iast (z := g) (v := n17) dX12_share_223 (show mT[41]? = some (64, 0, 192) from rfl) (by omega) (by omega) (by decide) ?_
      refine tm_iinc (q0 := 2) (L' := [(2, .int (iI (g + 1))), (4, .int (iI c18)), (3, .int (iI n17)), (0, .ref b), (1, .int (iI r))]) dX12_share_224 rfl (by decide) rfl ?_
      refine tm_goto (tgt := 157) dX12_share_227 (by decide) ?_
      exact tm_sub [0, 3, 4] rfl (ih _ (by omega) (g + 1) (sA 64 (g) (n17) σ) ((Fr.rfl.trans (Fr.sub hF (by decide) (by decide) (by decide))).A (by decide)) (hR.A (by omega)) (by omega) (hnl.A (by omega)) rfl)
end
