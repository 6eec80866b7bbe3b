def NMW (σ : MS) : Prop := σ.1 22 = 2 ∧ ¬ σ.2.2 24 0 = 7304564 ∧ ¬ σ.2.2 24 0 = 125780071117422 ∧ ¬ σ.2.2 24 0 = 26982 ∧ ¬ σ.2.2 24 0 = 1701606245 ∧ ¬ σ.2.2 24 0 = 512852847717
/-! the reader's state as the automaton sees it -/
def an5 (z : Int) : Int := (iI z &&& iI 255).toInt
theorem an5_eq (z : Int) : iI (an5 z) = iI z &&& iI 255 := iI_self _
theorem an5_r (z : Int) : 0 ≤ an5 z ∧ an5 z ≤ 255 := by
  obtain ⟨w, h1, h2, h3⟩ := iI_and255 (z := z)
  unfold an5
  rw [h1, iI_toInt ⟨by omega, by omega⟩]
  exact ⟨h2, h3⟩
def sv (σ : MS) : Int → Int := fun k => if k < σ.1 21 then an5 (σ.2.1 1 k) else -1
def tks (σ : MS) : TK := (σ.1 19, σ.1 20, σ.1 22, σ.1 23, σ.2.2 24 0)
def xs (σ : MS) : Int × Int × Int := (σ.1 28, σ.1 29, σ.1 34)
def cfg (K : List Nat) (σ : MS) (q : QR) (ρ : List EV) : PCf := (K, tks σ, xs σ, q, ρ)
/-! what is kept of what the text tells: phase, fault, its place, routine, line, routines told; names, parameters, how many were told; words -/
def srt (σ : MS) : (Int × Int × Int × Int × Int × Int) × ((Int → Int) × (Int → Int) × (Int → Int)) × (Int → Int64) × (Int → Int64) := ((σ.1 25, σ.1 26, σ.1 27, σ.1 30, σ.1 31, σ.1 43), (σ.2.1 35, σ.2.1 36, σ.2.1 45), σ.2.2 38, σ.2.2 44)
theorem srt_mk {σ τ : MS} (h25 : τ.1 25 = σ.1 25) (h26 : τ.1 26 = σ.1 26) (h27 : τ.1 27 = σ.1 27) (h30 : τ.1 30 = σ.1 30) (h31 : τ.1 31 = σ.1 31) (h43 : τ.1 43 = σ.1 43) (a35 : τ.2.1 35 = σ.2.1 35) (a36 : τ.2.1 36 = σ.2.1 36) (a45 : τ.2.1 45 = σ.2.1 45) (j38 : τ.2.2 38 = σ.2.2 38) (j44 : τ.2.2 44 = σ.2.2 44) : srt τ = srt σ := by
  unfold srt
  rw [h25, h26, h27, h30, h31, h43, a35, a36, a45, j38, j44]
section SRT
variable {σ τ : MS}
theorem srt_25 (h : srt τ = srt σ) : τ.1 25 = σ.1 25 := congrArg (fun z => z.1.1) h
theorem srt_26 (h : srt τ = srt σ) : τ.1 26 = σ.1 26 := congrArg (fun z => z.1.2.1) h
theorem srt_27 (h : srt τ = srt σ) : τ.1 27 = σ.1 27 := congrArg (fun z => z.1.2.2.1) h
theorem srt_30 (h : srt τ = srt σ) : τ.1 30 = σ.1 30 := congrArg (fun z => z.1.2.2.2.1) h
theorem srt_31 (h : srt τ = srt σ) : τ.1 31 = σ.1 31 := congrArg (fun z => z.1.2.2.2.2.1) h
theorem srt_43 (h : srt τ = srt σ) : τ.1 43 = σ.1 43 := congrArg (fun z => z.1.2.2.2.2.2) h
theorem srt_35 (h : srt τ = srt σ) : τ.2.1 35 = σ.2.1 35 := congrArg (fun z => z.2.1.1) h
theorem srt_36 (h : srt τ = srt σ) : τ.2.1 36 = σ.2.1 36 := congrArg (fun z => z.2.1.2.1) h
theorem srt_45 (h : srt τ = srt σ) : τ.2.1 45 = σ.2.1 45 := congrArg (fun z => z.2.1.2.2) h
theorem srt_38 (h : srt τ = srt σ) : τ.2.2 38 = σ.2.2 38 := congrArg (fun z => z.2.2.1) h
theorem srt_44 (h : srt τ = srt σ) : τ.2.2 44 = σ.2.2 44 := congrArg (fun z => z.2.2.2) h
end SRT
theorem srt_fr {ss ks js : List Nat} {σ τ : MS} (f : Fr ss ks js σ τ) (h : ∀ k ∈ [25, 26, 27, 30, 31, 43], k ∉ ss) (h2 : ∀ k ∈ [35, 36, 45], k ∉ ks) (h3 : ∀ k ∈ [38, 44], k ∉ js) : srt τ = srt σ := srt_mk (f.1 25 (h 25 (by decide))) (f.1 26 (h 26 (by decide))) (f.1 27 (h 27 (by decide))) (f.1 30 (h 30 (by decide))) (f.1 31 (h 31 (by decide))) (f.1 43 (h 43 (by decide))) (f.2.1 35 (h2 35 (by decide))) (f.2.1 36 (h2 36 (by decide))) (f.2.1 45 (h2 45 (by decide))) (f.2.2 38 (h3 38 (by decide))) (f.2.2 44 (h3 44 (by decide)))
noncomputable def ifP {α : Type} (p : Prop) (a b : α) : α := @ite α p (Classical.propDecidable p) a b
theorem ifP_t {α : Type} {p : Prop} {a b : α} (h : p) : ifP p a b = a := by unfold ifP; exact if_pos h
theorem ifP_f {α : Type} {p : Prop} {a b : α} (h : ¬ p) : ifP p a b = b := by unfold ifP; exact if_neg h
/-- a fault is noted -/
def ntP (f p : Int) (A : MS) : MS := if 0 < A.1 25 ∧ (A.1 26 = 0 ∨ p < A.1 27 ∨ (p = A.1 27 ∧ f < A.1 26)) then sS 27 p (sS 26 f A) else A
/-- a name is there already -/
def NFD (A : MS) (w : Int64) : Prop := ∃ n, 0 ≤ n ∧ n < A.2.1 35 (A.1 30) ∧ A.2.2 38 (12 * A.1 30 + n) = w
noncomputable def nmP (w : Int64) (p : Int) (A : MS) : MS := ifP (A.1 30 < 6) (ifP (NFD A w) A (ifP (A.2.1 35 (A.1 30) = 12) (ntP 5 p A) (ifP (A.1 25 = 1) (sA 35 (A.1 30) (A.2.1 35 (A.1 30) + 1) (sJ 38 (12 * A.1 30 + A.2.1 35 (A.1 30)) w A)) A))) A
/-- the first routine of that name -/
def RFD (A : MS) (w : Int64) (q : Int) : Prop := 0 ≤ q ∧ q < A.1 43 ∧ A.2.2 44 q = w ∧ ∀ j, 0 ≤ j → j < q → A.2.2 44 j ≠ w
noncomputable def rnP (w : Int64) (p : Int) (A : MS) : MS := ifP (A.1 25 = 1) (sS 43 (A.1 43 + 1) (sJ 44 (A.1 43) w (ifP (∃ q, RFD A w q) (ntP 2 p (ifP (A.1 30 = 6) (ntP 5 p A) A)) (ifP (A.1 30 = 6) (ntP 5 p A) A)))) A
noncomputable def paP (w : Int64) (p m : Int) (A : MS) : MS := ifP (A.1 25 = 1) (nmP w p (ifP (A.1 30 < 6 ∧ NFD A w) (ntP 2 p (ifP (m = 4) (ntP 5 p A) A)) (ifP (m = 4) (ntP 5 p A) A))) A
noncomputable def peP (m : Int) (A : MS) : MS := ifP (A.1 25 = 1) (ifP (A.1 30 < 6) (sA 36 (A.1 30) (if 4 < m then 4 else m) (sA 45 (A.1 43 - 1) m A)) (sA 45 (A.1 43 - 1) m A)) A
def lnP (p : Int) (A : MS) : MS := if A.1 31 + 1 = 41 then ntP 5 p (sS 31 (A.1 31 + 1) A) else sS 31 (A.1 31 + 1) A
noncomputable def clP (w : Int64) (p m : Int) (A : MS) : MS := ifP (A.1 25 = 2) (ifP (∃ q, RFD A w q) (ifP (∃ q, RFD A w q ∧ m ≠ A.2.1 45 q) (ntP 4 p A) A) (ntP 3 p A)) A
def reP (p m : Int) (A : MS) : MS := if A.1 25 = 2 ∧ 120 < m then sS 30 (A.1 30 + 1) (ntP 5 p A) else sS 30 (A.1 30 + 1) A
/-- what a telling does -/
noncomputable def upR (A : MS) (e : EW) : MS :=
  if e.1 = 2 then rnP e.2.2.2 e.2.1 A
  else if e.1 = 3 then paP e.2.2.2 e.2.1 e.2.2.1 A
  else if e.1 = 7 then peP e.2.2.1 A
  else if e.1 = 4 then nmP e.2.2.2 e.2.1 A
  else if e.1 = 5 then lnP e.2.1 A
  else if e.1 = 1 then clP e.2.2.2 e.2.1 e.2.2.1 A
  else if e.1 = 0 then reP e.2.1 e.2.2.1 A
  else A
/-! states that agree do alike -/
section SRC
variable {A σ : MS}
theorem srt_nt (h : srt A = srt σ) {f p : Int} : srt (ntP f p A) = srt (ntP f p σ) := by
  unfold ntP
  rw [srt_25 h, srt_26 h, srt_27 h]
  split
  · exact srt_mk (show A.1 25 = σ.1 25 from srt_25 h) rfl rfl (show A.1 30 = σ.1 30 from srt_30 h) (show A.1 31 = σ.1 31 from srt_31 h) (show A.1 43 = σ.1 43 from srt_43 h) (show A.2.1 35 = σ.2.1 35 from srt_35 h) (show A.2.1 36 = σ.2.1 36 from srt_36 h) (show A.2.1 45 = σ.2.1 45 from srt_45 h) (show A.2.2 38 = σ.2.2 38 from srt_38 h) (show A.2.2 44 = σ.2.2 44 from srt_44 h)
  · exact h
theorem NFD_c (h : srt A = srt σ) {w : Int64} : NFD A w ↔ NFD σ w := by unfold NFD; rw [srt_35 h, srt_30 h, srt_38 h]
theorem RFD_c (h : srt A = srt σ) {w : Int64} {q : Int} : RFD A w q ↔ RFD σ w q := by unfold RFD; rw [srt_43 h, srt_44 h]
theorem srt_nm (h : srt A = srt σ) {w : Int64} {p : Int} : srt (nmP w p A) = srt (nmP w p σ) := by
  unfold nmP
  rw [srt_30 h]
  by_cases c1 : σ.1 30 < 6
  · rw [ifP_t c1, ifP_t c1]
    by_cases c2 : NFD σ w
    · rw [ifP_t ((NFD_c h).mpr c2), ifP_t c2]; exact h
    · rw [ifP_f (fun z => c2 ((NFD_c h).mp z)), ifP_f c2, srt_35 h]
      by_cases c3 : σ.2.1 35 (σ.1 30) = 12
      · rw [ifP_t c3, ifP_t c3]; exact srt_nt h
      · rw [ifP_f c3, ifP_f c3, srt_25 h]
        by_cases c4 : σ.1 25 = 1
        · rw [ifP_t c4, ifP_t c4]
          refine srt_mk (show A.1 25 = σ.1 25 from srt_25 h) (show A.1 26 = σ.1 26 from srt_26 h) (show A.1 27 = σ.1 27 from srt_27 h) (show A.1 30 = σ.1 30 from srt_30 h) (show A.1 31 = σ.1 31 from srt_31 h) (show A.1 43 = σ.1 43 from srt_43 h) ?_ (show A.2.1 36 = σ.2.1 36 from srt_36 h) (show A.2.1 45 = σ.2.1 45 from srt_45 h) ?_ (show A.2.2 44 = σ.2.2 44 from srt_44 h)
          · simp only [sA, sJ, if_true, srt_35 h]
          · simp only [sA, sJ, if_true, srt_38 h]
        · rw [ifP_f c4, ifP_f c4]; exact h
  · rw [ifP_f c1, ifP_f c1]; exact h
theorem srt_ln (h : srt A = srt σ) {p : Int} : srt (lnP p A) = srt (lnP p σ) := by
  unfold lnP
  rw [srt_31 h]
  have e : srt (sS 31 (σ.1 31 + 1) A) = srt (sS 31 (σ.1 31 + 1) σ) := srt_mk (show A.1 25 = σ.1 25 from srt_25 h) (show A.1 26 = σ.1 26 from srt_26 h) (show A.1 27 = σ.1 27 from srt_27 h) (show A.1 30 = σ.1 30 from srt_30 h) rfl (show A.1 43 = σ.1 43 from srt_43 h) (show A.2.1 35 = σ.2.1 35 from srt_35 h) (show A.2.1 36 = σ.2.1 36 from srt_36 h) (show A.2.1 45 = σ.2.1 45 from srt_45 h) (show A.2.2 38 = σ.2.2 38 from srt_38 h) (show A.2.2 44 = σ.2.2 44 from srt_44 h)
  split
  · exact srt_nt e
  · exact e
theorem srt_cl (h : srt A = srt σ) {w : Int64} {p m : Int} : srt (clP w p m A) = srt (clP w p m σ) := by
  unfold clP
  rw [srt_25 h, srt_45 h]
  have e1 : (∃ q, RFD A w q) ↔ ∃ q, RFD σ w q := ⟨fun z => by obtain ⟨q, y⟩ := z; exact ⟨q, (RFD_c h).mp y⟩, fun z => by obtain ⟨q, y⟩ := z; exact ⟨q, (RFD_c h).mpr y⟩⟩
  have e2 : (∃ q, RFD A w q ∧ m ≠ σ.2.1 45 q) ↔ ∃ q, RFD σ w q ∧ m ≠ σ.2.1 45 q := ⟨fun z => by obtain ⟨q, y, u⟩ := z; exact ⟨q, (RFD_c h).mp y, u⟩, fun z => by obtain ⟨q, y, u⟩ := z; exact ⟨q, (RFD_c h).mpr y, u⟩⟩
  rw [show (∃ q, RFD A w q) = ∃ q, RFD σ w q from propext e1, show (∃ q, RFD A w q ∧ m ≠ σ.2.1 45 q) = ∃ q, RFD σ w q ∧ m ≠ σ.2.1 45 q from propext e2]
  by_cases c1 : σ.1 25 = 2
  · rw [ifP_t c1, ifP_t c1]
    by_cases c2 : ∃ q, RFD σ w q
    · rw [ifP_t c2, ifP_t c2]
      by_cases c3 : ∃ q, RFD σ w q ∧ m ≠ σ.2.1 45 q
      · rw [ifP_t c3, ifP_t c3]; exact srt_nt h
      · rw [ifP_f c3, ifP_f c3]; exact h
    · rw [ifP_f c2, ifP_f c2]; exact srt_nt h
  · rw [ifP_f c1, ifP_f c1]; exact h
theorem srt_re (h : srt A = srt σ) {p m : Int} : srt (reP p m A) = srt (reP p m σ) := by
  unfold reP
  rw [srt_25 h, srt_30 h]
  have n := srt_nt (f := 5) (p := p) h
  split
  · exact srt_mk (by have q9 := srt_25 n; exact q9) (by have q9 := srt_26 n; exact q9) (by have q9 := srt_27 n; exact q9) rfl (by have q9 := srt_31 n; exact q9) (by have q9 := srt_43 n; exact q9) (by have q9 := srt_35 n; exact q9) (by have q9 := srt_36 n; exact q9) (by have q9 := srt_45 n; exact q9) (by have q9 := srt_38 n; exact q9) (by have q9 := srt_44 n; exact q9)
  · exact srt_mk (show A.1 25 = σ.1 25 from srt_25 h) (show A.1 26 = σ.1 26 from srt_26 h) (show A.1 27 = σ.1 27 from srt_27 h) rfl (show A.1 31 = σ.1 31 from srt_31 h) (show A.1 43 = σ.1 43 from srt_43 h) (show A.2.1 35 = σ.2.1 35 from srt_35 h) (show A.2.1 36 = σ.2.1 36 from srt_36 h) (show A.2.1 45 = σ.2.1 45 from srt_45 h) (show A.2.2 38 = σ.2.2 38 from srt_38 h) (show A.2.2 44 = σ.2.2 44 from srt_44 h)
theorem srt_6 (h : srt A = srt σ) {p : Int} : srt (ifP (A.1 30 = 6) (ntP 5 p A) A) = srt (ifP (σ.1 30 = 6) (ntP 5 p σ) σ) := by
  rw [srt_30 h]
  by_cases c : σ.1 30 = 6
  · rw [ifP_t c, ifP_t c]; exact srt_nt h
  · rw [ifP_f c, ifP_f c]; exact h
theorem srt_rn (h : srt A = srt σ) {w : Int64} {p : Int} : srt (rnP w p A) = srt (rnP w p σ) := by
  unfold rnP
  rw [srt_25 h, srt_43 h]
  have e1 : (∃ q, RFD A w q) ↔ ∃ q, RFD σ w q := ⟨fun z => by obtain ⟨q, y⟩ := z; exact ⟨q, (RFD_c h).mp y⟩, fun z => by obtain ⟨q, y⟩ := z; exact ⟨q, (RFD_c h).mpr y⟩⟩
  rw [show (∃ q, RFD A w q) = ∃ q, RFD σ w q from propext e1]
  have fin : ∀ {B τ : MS}, srt B = srt τ → srt (sS 43 (σ.1 43 + 1) (sJ 44 (σ.1 43) w B)) = srt (sS 43 (σ.1 43 + 1) (sJ 44 (σ.1 43) w τ)) := fun {B τ} n => srt_mk (by have q9 := srt_25 n; exact q9) (by have q9 := srt_26 n; exact q9) (by have q9 := srt_27 n; exact q9) (by have q9 := srt_30 n; exact q9) (by have q9 := srt_31 n; exact q9) rfl (by have q9 := srt_35 n; exact q9) (by have q9 := srt_36 n; exact q9) (by have q9 := srt_45 n; exact q9) (by have q9 := srt_38 n; exact q9) (by simp only [sS, sJ, if_true, srt_44 n])
  by_cases c1 : σ.1 25 = 1
  · rw [ifP_t c1, ifP_t c1]
    by_cases c2 : ∃ q, RFD σ w q
    · rw [ifP_t c2, ifP_t c2]; exact fin (srt_nt (srt_6 h))
    · rw [ifP_f c2, ifP_f c2]; exact fin (srt_6 h)
  · rw [ifP_f c1, ifP_f c1]; exact h
theorem srt_pa (h : srt A = srt σ) {w : Int64} {p m : Int} : srt (paP w p m A) = srt (paP w p m σ) := by
  unfold paP
  rw [srt_25 h, srt_30 h, show NFD A w = NFD σ w from propext (NFD_c h)]
  have h4 : srt (ifP (m = 4) (ntP 5 p A) A) = srt (ifP (m = 4) (ntP 5 p σ) σ) := by
    by_cases c : m = 4
    · rw [ifP_t c, ifP_t c]; exact srt_nt h
    · rw [ifP_f c, ifP_f c]; exact h
  by_cases c1 : σ.1 25 = 1
  · rw [ifP_t c1, ifP_t c1]
    by_cases c2 : σ.1 30 < 6 ∧ NFD σ w
    · rw [ifP_t c2, ifP_t c2]; exact srt_nm (srt_nt h4)
    · rw [ifP_f c2, ifP_f c2]; exact srt_nm h4
  · rw [ifP_f c1, ifP_f c1]; exact h
theorem srt_pe (h : srt A = srt σ) {m : Int} : srt (peP m A) = srt (peP m σ) := by
  unfold peP
  rw [srt_25 h, srt_30 h, srt_43 h]
  by_cases c1 : σ.1 25 = 1
  · rw [ifP_t c1, ifP_t c1]
    by_cases c2 : σ.1 30 < 6
    · rw [ifP_t c2, ifP_t c2]
      exact srt_mk (show A.1 25 = σ.1 25 from srt_25 h) (show A.1 26 = σ.1 26 from srt_26 h) (show A.1 27 = σ.1 27 from srt_27 h) (show A.1 30 = σ.1 30 from srt_30 h) (show A.1 31 = σ.1 31 from srt_31 h) (show A.1 43 = σ.1 43 from srt_43 h) (show A.2.1 35 = σ.2.1 35 from srt_35 h) (by simp [sA, srt_36 h]) (by simp [sA, srt_45 h]) (show A.2.2 38 = σ.2.2 38 from srt_38 h) (show A.2.2 44 = σ.2.2 44 from srt_44 h)
    · rw [ifP_f c2, ifP_f c2]
      exact srt_mk (show A.1 25 = σ.1 25 from srt_25 h) (show A.1 26 = σ.1 26 from srt_26 h) (show A.1 27 = σ.1 27 from srt_27 h) (show A.1 30 = σ.1 30 from srt_30 h) (show A.1 31 = σ.1 31 from srt_31 h) (show A.1 43 = σ.1 43 from srt_43 h) (show A.2.1 35 = σ.2.1 35 from srt_35 h) (show A.2.1 36 = σ.2.1 36 from srt_36 h) (by simp [sA, srt_45 h]) (show A.2.2 38 = σ.2.2 38 from srt_38 h) (show A.2.2 44 = σ.2.2 44 from srt_44 h)
  · rw [ifP_f c1, ifP_f c1]; exact h
end SRC
theorem ntP_25 {f p : Int} {A : MS} : (ntP f p A).1 25 = A.1 25 := by unfold ntP; split <;> rfl
theorem ntP_0 {f p : Int} {A : MS} (h : A.1 25 = 0) : ntP f p A = A := by unfold ntP; rw [if_neg (by omega)]
/-- a road's tellings, done on the reference's state -/
def EFF (es : List EW) (σ τ : MS) : Prop := ∀ A, srt A = srt σ → srt (es.foldl upR A) = srt τ
theorem EFF.nil {σ τ : MS} (h : srt τ = srt σ) : EFF [] σ τ := fun _ a => a.trans h.symm
theorem EFF.trans {e1 e2 : List EW} {σ τ υ : MS} (h : EFF e1 σ τ) (g : EFF e2 τ υ) : EFF (e1 ++ e2) σ υ := fun A a => by
  rw [List.foldl_append]
  exact g _ (h A a)
theorem EFF.last {es : List EW} {σ τ υ : MS} (h : EFF es σ τ) (e : srt υ = srt τ) : EFF es σ υ := fun A a => (h A a).trans e.symm
theorem EFF.from {es : List EW} {σ τ υ : MS} (h : EFF es τ υ) (e : srt τ = srt σ) : EFF es σ υ := fun A a => h A (a.trans e.symm)
theorem EFF.name {w : Int64} {p : Int} {σ τ : MS} (h : srt τ = srt (nmP w p σ)) : EFF [(4, p, 0, w)] σ τ := fun _ a => (srt_nm a).trans h.symm
theorem EFF.line {p : Int} {σ τ : MS} (h : srt τ = srt (lnP p σ)) : EFF [(5, p, 0, 0)] σ τ := fun _ a => (srt_ln a).trans h.symm
theorem EFF.call {w : Int64} {p m : Int} {σ τ : MS} (h : srt τ = srt (clP w p m σ)) : EFF [(1, p, m, w)] σ τ := fun _ a => (srt_cl a).trans h.symm
theorem EFF.rout {w : Int64} {p : Int} {σ τ : MS} (h : srt τ = srt (rnP w p σ)) : EFF [(2, p, 0, w)] σ τ := fun _ a => (srt_rn a).trans h.symm
theorem EFF.para {w : Int64} {p m : Int} {σ τ : MS} (h : srt τ = srt (paP w p m σ)) : EFF [(3, p, m, w)] σ τ := fun _ a => (srt_pa a).trans h.symm
theorem EFF.pend {m : Int} {σ τ : MS} (h : srt τ = srt (peP m σ)) : EFF [(7, 0, m, 0)] σ τ := fun _ a => (srt_pe a).trans h.symm
theorem EFF.rend {p m : Int} {σ τ : MS} (h : srt τ = srt (reP p m σ)) : EFF [(0, p, m, 0)] σ τ := fun _ a => (srt_re a).trans h.symm
/-- in phase 0 no fault is noted -/
theorem nmP_25 {w : Int64} {p : Int} {B : MS} : (nmP w p B).1 25 = B.1 25 := by
  unfold nmP
  by_cases c1 : B.1 30 < 6
  · rw [ifP_t c1]
    by_cases c2 : NFD B w
    · rw [ifP_t c2]
    · rw [ifP_f c2]
      by_cases c3 : B.2.1 35 (B.1 30) = 12
      · rw [ifP_t c3, ntP_25]
      · rw [ifP_f c3]
        by_cases c4 : B.1 25 = 1
        · rw [ifP_t c4]; rfl
        · rw [ifP_f c4]
  · rw [ifP_f c1]
theorem if25 {p : Prop} {a b : MS} {z : Int} (h1 : a.1 25 = z) (h2 : b.1 25 = z) : (ifP p a b).1 25 = z := by
  by_cases c : p
  · rw [ifP_t c]; exact h1
  · rw [ifP_f c]; exact h2
theorem upR_25 (A : MS) (e : EW) : (upR A e).1 25 = A.1 25 := by
  unfold upR
  split
  · unfold rnP
    refine if25 (show (ifP _ _ _ : MS).1 25 = _ from if25 ?_ ?_) rfl
    · rw [ntP_25]; exact if25 ntP_25 rfl
    · exact if25 ntP_25 rfl
  split
  · unfold paP
    refine if25 ?_ rfl
    rw [nmP_25]
    refine if25 ?_ ?_
    · rw [ntP_25]; exact if25 ntP_25 rfl
    · exact if25 ntP_25 rfl
  split
  · unfold peP
    exact if25 (if25 rfl rfl) rfl
  split
  · exact nmP_25
  split
  · unfold lnP
    split
    · rw [ntP_25]; rfl
    · rfl
  split
  · unfold clP
    exact if25 (if25 (if25 ntP_25 rfl) ntP_25) rfl
  split
  · unfold reP
    split
    · exact ntP_25
    · rfl
  rfl
theorem upR_26 (A : MS) (e : EW) (h : A.1 25 = 0) : (upR A e).1 26 = A.1 26 := by
  have h1 : ¬ A.1 25 = 1 := by omega
  have h2 : ¬ A.1 25 = 2 := by omega
  unfold upR
  split
  · unfold rnP; rw [ifP_f h1]
  split
  · unfold paP; rw [ifP_f h1]
  split
  · unfold peP; rw [ifP_f h1]
  split
  · unfold nmP
    rw [ntP_0 h, ifP_f h1]
    by_cases c1 : A.1 30 < 6
    · rw [ifP_t c1]
      by_cases c2 : NFD A e.2.2.2
      · rw [ifP_t c2]
      · rw [ifP_f c2]
        by_cases c3 : A.2.1 35 (A.1 30) = 12
        · rw [ifP_t c3]
        · rw [ifP_f c3]
    · rw [ifP_f c1]
  split
  · unfold lnP
    split
    · rw [ntP_0 (show (sS 31 (A.1 31 + 1) A).1 25 = 0 from h)]; rfl
    · rfl
  split
  · unfold clP; rw [ifP_f h2]
  split
  · unfold reP; rw [if_neg (by omega)]; rfl
  rfl
theorem fold_25 (es : List EW) (A : MS) : (es.foldl upR A).1 25 = A.1 25 := by
  induction es generalizing A with
  | nil => rfl
  | cons e es ih => rw [List.foldl_cons, ih, upR_25]
theorem fold_26 (es : List EW) (A : MS) (h : A.1 25 = 0) : (es.foldl upR A).1 26 = A.1 26 := by
  induction es generalizing A with
  | nil => rfl
  | cons e es ih => rw [List.foldl_cons, ih _ (by rw [upR_25]; exact h), upR_26 A e h]
theorem EFF.p25 {es : List EW} {σ τ : MS} (h : EFF es σ τ) : τ.1 25 = σ.1 25 := (srt_25 (h σ rfl)).symm.trans (fold_25 es σ)
theorem EFF.p26 {es : List EW} {σ τ : MS} (h : EFF es σ τ) (h0 : σ.1 25 = 0) : τ.1 26 = σ.1 26 := (srt_26 (h σ rfl)).symm.trans (fold_26 es σ h0)
def vw (σ : MS) : TK × (Int × Int × Int) × (Int → Int) := (tks σ, xs σ, sv σ)
theorem sv_fr {ss ks js : List Nat} {σ τ : MS} (f : Fr ss ks js σ τ) (h1 : 21 ∉ ss) (h2 : 1 ∉ ks) : sv τ = sv σ := by unfold sv; rw [f.1 21 h1, f.2.1 1 h2]
theorem vw_fr {ss ks js : List Nat} {σ τ : MS} (f : Fr ss ks js σ τ) (h : ∀ k ∈ [19, 20, 21, 22, 23, 28, 29, 34], k ∉ ss) (h2 : 1 ∉ ks) (h3 : 24 ∉ js) : vw τ = vw σ := by
  unfold vw tks xs
  rw [sv_fr f (h 21 (by decide)) h2, f.1 19 (h 19 (by decide)), f.1 20 (h 20 (by decide)), f.1 22 (h 22 (by decide)), f.1 23 (h 23 (by decide)), f.1 28 (h 28 (by decide)), f.1 29 (h 29 (by decide)), f.1 34 (h 34 (by decide)), f.2.2 24 h3]
def GOS (ks : List Nat) (σ : MS) (q : QR) (ks' : List Nat) (τ : MS) (q' : QR) (lg : List EV) : Prop := sv τ = sv σ ∧ ∃ es, (∀ K ρ, RE (sv σ) (cfg (ks ++ K) σ q ρ) es (cfg (ks' ++ K) τ q' (ρ ++ lg))) ∧ EFF es σ τ
/-- no text goes on: at which place, and what the reference says of it in its first go -/
def GOF (ks : List Nat) (σ : MS) (q : QR) (τ : MS) : Prop := ∃ es p, (∀ K ρ, RE (sv σ) (cfg (ks ++ K) σ q ρ) (es ++ [(9, p, 0, 0)]) pF) ∧ (σ.1 25 = 0 → σ.1 26 = 0 → τ.1 26 = 1 ∧ τ.1 27 = p)
def WRG (σ τ : MS) : Prop := σ.1 26 = 0 → τ.1 26 = 1 ∧ τ.1 27 = σ.1 19
section GO
variable {a b c : List Nat} {σ τ υ : MS} {q q1 q2 : QR} {l1 l2 : List EV}
theorem GOS.rc (h : GOS a σ q b τ q1 l1) : ∀ K ρ, RCm (sv σ) (cfg (a ++ K) σ q ρ) (cfg (b ++ K) τ q1 (ρ ++ l1)) := fun K ρ => by
  obtain ⟨-, es, h2, -⟩ := h
  exact (h2 K ρ).rc
theorem GOF.rc (h : GOF a σ q τ) : ∀ K ρ, RCm (sv σ) (cfg (a ++ K) σ q ρ) pF := fun K ρ => by
  obtain ⟨es, p, h2, -⟩ := h
  exact (h2 K ρ).rc
theorem GOS.trans (h : GOS a σ q b τ q1 l1) (g : GOS b τ q1 c υ q2 l2) : GOS a σ q c υ q2 (l1 ++ l2) := by
  obtain ⟨h1, e1, h2, h3⟩ := h
  obtain ⟨g1, e2, g2, g3⟩ := g
  refine ⟨g1.trans h1, e1 ++ e2, fun K ρ => ?_, h3.trans g3⟩
  have x := h2 K ρ
  have y := g2 K (ρ ++ l1)
  rw [h1, List.append_assoc] at y
  exact x.trans y
theorem GOS.fail (h : GOS a σ q b τ q1 l1) (g : GOF b τ q1 υ) : GOF a σ q υ := by
  obtain ⟨h1, e1, h2, h3⟩ := h
  obtain ⟨e2, p, g2, g3⟩ := g
  refine ⟨e1 ++ e2, p, fun K ρ => ?_, fun z1 z2 => g3 (h3.p25.trans z1) ((h3.p26 z1).trans z2)⟩
  have x := h2 K ρ
  have y := g2 K (ρ ++ l1)
  rw [h1] at y
  rw [List.append_assoc]
  exact x.trans y
theorem GOF.mv (h : GOF a σ q τ) (e26 : υ.1 26 = τ.1 26) (e27 : υ.1 27 = τ.1 27) : GOF a σ q υ := by
  obtain ⟨es, p, h2, h3⟩ := h
  exact ⟨es, p, h2, fun z1 z2 => by rw [e26, e27]; exact h3 z1 z2⟩
theorem GOS.more (x : List Nat) (h : GOS a σ q b τ q1 l1) : GOS (a ++ x) σ q (b ++ x) τ q1 l1 := by
  obtain ⟨h1, es, h2, h3⟩ := h
  refine ⟨h1, es, fun K ρ => ?_, h3⟩
  have y := h2 (x ++ K) ρ
  rw [← List.append_assoc, ← List.append_assoc] at y
  exact y
theorem GOF.more (x : List Nat) (h : GOF a σ q τ) : GOF (a ++ x) σ q τ := by
  obtain ⟨es, p, h2, h3⟩ := h
  refine ⟨es, p, fun K ρ => ?_, h3⟩
  have y := h2 (x ++ K) ρ
  rw [← List.append_assoc] at y
  exact y
theorem GOS.nop (h : vw τ = vw σ) (hr : srt τ = srt σ) : GOS a σ q a τ q [] := by
  unfold vw at h
  have h1 := congrArg Prod.fst h
  have h2 := congrArg (fun x => x.2.1) h
  have h3 := congrArg (fun x => x.2.2) h
  simp only at h1 h2 h3
  refine ⟨h3, [], fun K ρ => ?_, EFF.nil hr⟩
  unfold cfg
  rw [h1, h2, List.append_nil]
  exact RE.rfl
theorem GOS.then (h : GOS a σ q b τ q1 []) (g : GOS b τ q1 c υ q2 l2) : GOS a σ q c υ q2 l2 := h.trans g
theorem GOS.last (h : GOS a σ q b τ q1 l1) (e : vw υ = vw τ) (hr : srt υ = srt τ) : GOS a σ q b υ q1 l1 := by
  have := h.trans (GOS.nop (a := b) (q := q1) e hr)
  rw [List.append_nil] at this
  exact this
/-- a step that tells something -/
theorem GOS.ev {k : Nat} {es : List EW} (hk : k ≠ 999) (hs : sv τ = sv σ) (h : stk (sv σ) k (tks σ) (xs σ) q = some (b, tks τ, xs τ, q1, l1)) (he : evk k (tks σ) (xs σ) q = es) (hf : EFF es σ τ) : GOS [k] σ q b τ q1 l1 := ⟨hs, es, fun K ρ => RE.one (by
  show (match stk (sv σ) k (tks σ) (xs σ) q with
    | none => pF
    | some r => (r.1 ++ K, r.2.1, r.2.2.1, r.2.2.2.1, ρ ++ r.2.2.2.2)) = _
  rw [h]; rfl) ((evt_s hk h).trans he), hf⟩
theorem GOS.one {k : Nat} (hk : k ≠ 999) (hs : sv τ = sv σ) (hr : srt τ = srt σ) (he : evk k (tks σ) (xs σ) q = []) (h : stk (sv σ) k (tks σ) (xs σ) q = some (b, tks τ, xs τ, q1, l1)) : GOS [k] σ q b τ q1 l1 := GOS.ev hk hs h he (EFF.nil hr)
theorem GOF.one {k : Nat} (hk : k ≠ 999) (w : WRG σ τ) (h : stk (sv σ) k (tks σ) (xs σ) q = none) : GOF [k] σ q τ := ⟨[], σ.1 19, fun K ρ => RE.one (by
  show (match stk (sv σ) k (tks σ) (xs σ) q with
    | none => pF
    | some r => (r.1 ++ K, r.2.1, r.2.2.1, r.2.2.2.1, ρ ++ r.2.2.2.2)) = _
  rw [h]) (evt_n hk h), fun _ z => w z⟩
end GO
/-- a token further -/
def ADVm (σ τ : MS) : Prop := tks τ = advT (sv σ) (σ.1 20) ∧ xs τ = xs σ ∧ sv τ = sv σ ∧ srt τ = srt σ
theorem nam_iff (σ : MS) : nam (tks σ) ↔ NMW σ := by unfold nam tks NMW; simp
def SG (σ : MS) (c : Int) : Prop := σ.1 22 = 4 ∧ σ.1 23 = c
def WD (σ : MS) (w : Int64) : Prop := σ.1 22 = 2 ∧ σ.2.2 24 0 = w
/-- numbers changed, nothing else -/
def CHG (σ τ : MS) (x : Int × Int × Int) : Prop := tks τ = tks σ ∧ xs τ = x ∧ sv τ = sv σ ∧ srt τ = srt σ
/-- the same place, the same token; what is kept may have changed -/
def SAM (σ τ : MS) : Prop := tks τ = tks σ ∧ xs τ = xs σ ∧ sv τ = sv σ
section TAGS
variable {σ τ : MS} {q : QR}
theorem g0m (h : SG σ 45) (a : ADVm σ τ) : GOS [0] σ q [1, 51] τ q [] := GOS.one (by decide) a.2.2.1 a.2.2.2 rfl (by rw [a.1, a.2.1]; exact if_pos h)
theorem g0n (h : ¬ SG σ 45) : GOS [0] σ q [1] σ q [] := GOS.one (by decide) rfl rfl rfl (if_neg h)
theorem g1d (h : σ.1 22 = 3) (a : ADVm σ τ) : GOS [1] σ q [] τ q [] := GOS.one (by decide) a.2.2.1 a.2.2.2 (if_neg (fun x => absurd ((show σ.1 22 = 2 from x.1).symm.trans h) (by decide))) (by rw [a.1, a.2.1]; exact if_pos (Or.inl h))
theorem g1w (h : NMW σ) (a1 : tks τ = advT (sv σ) (σ.1 20)) (a2 : xs τ = xs σ) (a3 : sv τ = sv σ) (f : EFF [(4, σ.1 19, 0, σ.2.2 24 0)] σ τ) : GOS [1] σ q [] τ q [] := GOS.ev (by decide) a3 (by rw [a1, a2]; exact if_pos (Or.inr ((nam_iff σ).mpr h))) (if_pos ((nam_iff σ).mpr h)) f
theorem g1n (h3 : ¬ σ.1 22 = 3) (hn : ¬ NMW σ) : ¬ ((tks σ).2.2.1 = 3 ∨ nam (tks σ)) := fun h => h.elim h3 (fun x => hn ((nam_iff σ).mp x))
theorem g1p (h3 : ¬ σ.1 22 = 3) (hn : ¬ NMW σ) (h : SG σ 40) (a : ADVm σ τ) : GOS [1] σ q [2, 141] τ q [] := GOS.one (by decide) a.2.2.1 a.2.2.2 (if_neg (fun x => hn ((nam_iff σ).mp x))) (by rw [a.1, a.2.1]; exact (if_neg (g1n h3 hn)).trans (if_pos h))
theorem g1f (h3 : ¬ σ.1 22 = 3) (hn : ¬ NMW σ) (h : ¬ SG σ 40) (w : WRG σ τ) : GOF [1] σ q τ := GOF.one (by decide) w ((if_neg (g1n h3 hn)).trans (if_neg h))
theorem g2f (h : σ.1 28 = 8) (w : WRG σ τ) : GOF [2] σ q τ := GOF.one (by decide) w (if_pos h)
theorem g2 (h : ¬ σ.1 28 = 8) (a : CHG σ τ (σ.1 28 + 1, σ.1 29, σ.1 34)) : GOS [2] σ q [3, 6] τ q [] := GOS.one (by decide) a.2.2.1 a.2.2.2 rfl (by rw [a.1, a.2.1]; exact if_neg h)
theorem g3 : GOS [3] σ q [4, 8] σ q [] := GOS.one (by decide) rfl rfl rfl rfl
theorem g4 : GOS [4] σ q [0, 9] σ q [] := GOS.one (by decide) rfl rfl rfl rfl
theorem g6y (h : SG σ 61 ∨ SG σ 60) (a : ADVm σ τ) : GOS [6] σ q [3, 51, 7] τ q [] := GOS.one (by decide) a.2.2.1 a.2.2.2 rfl (by rw [a.1, a.2.1]; exact if_pos h)
theorem g6n (h : ¬ SG σ 61) (h2 : ¬ SG σ 60) : GOS [6] σ q [7] σ q [] := GOS.one (by decide) rfl rfl rfl (if_neg (fun x => x.elim h h2))
theorem g7 (a : CHG σ τ (σ.1 28 - 1, σ.1 29, σ.1 34)) : GOS [7] σ q [] τ q [] := GOS.one (by decide) a.2.2.1 a.2.2.2 rfl (by rw [a.1, a.2.1]; rfl)
theorem g8y (h : SG σ 43 ∨ SG σ 45) (a : ADVm σ τ) : GOS [8] σ q [4, 51, 8] τ q [] := GOS.one (by decide) a.2.2.1 a.2.2.2 rfl (by rw [a.1, a.2.1]; exact if_pos h)
theorem g8n (h : ¬ SG σ 43) (h2 : ¬ SG σ 45) : GOS [8] σ q [] σ q [] := GOS.one (by decide) rfl rfl rfl (if_neg (fun x => x.elim h h2))
theorem g9y (h : SG σ 42) (a : ADVm σ τ) : GOS [9] σ q [0, 51, 9] τ q [] := GOS.one (by decide) a.2.2.1 a.2.2.2 rfl (by rw [a.1, a.2.1]; exact if_pos h)
theorem g9n (h : ¬ SG σ 42) : GOS [9] σ q [] σ q [] := GOS.one (by decide) rfl rfl rfl (if_neg h)
theorem g51 (a : CHG σ τ (σ.1 28, σ.1 29, σ.1 34 + 1)) : GOS [51] σ q [] τ q [] := GOS.one (by decide) a.2.2.1 a.2.2.2 rfl (by rw [a.1, a.2.1]; rfl)
theorem g52 (a : CHG σ τ (σ.1 28, σ.1 29, σ.1 34 + 2)) : GOS [52] σ q [] τ q [] := GOS.one (by decide) a.2.2.1 a.2.2.2 rfl (by rw [a.1, a.2.1]; rfl)
theorem g20w (h : WD σ 512852847717) (s : SAM σ τ) (f : EFF [(5, σ.1 19, 0, 0)] σ τ) : GOS [20] σ q [22] τ q [] := GOS.ev (by decide) s.2.2 (by rw [s.1, s.2.1]; exact if_pos h) rfl f
theorem g20i (h1 : ¬ WD σ 512852847717) (h : WD σ 26982) (s : SAM σ τ) (f : EFF [(5, σ.1 19, 0, 0)] σ τ) : GOS [20] σ q [51, 21] τ q [] := GOS.ev (by decide) s.2.2 (by rw [s.1, s.2.1]; exact (if_neg h1).trans (if_pos h)) rfl f
theorem g20o (h1 : ¬ WD σ 512852847717) (h2 : ¬ WD σ 26982) (h : WD σ 7304564 ∨ WD σ 125780071117422) (s : SAM σ τ) (f : EFF [(5, σ.1 19, 0, 0)] σ τ) : GOS [20] σ q [51, 39] τ q [] := GOS.ev (by decide) s.2.2 (by rw [s.1, s.2.1]; exact (if_neg h1).trans ((if_neg h2).trans (if_pos h))) rfl f
theorem g20n (h1 : ¬ WD σ 512852847717) (h2 : ¬ WD σ 26982) (h3 : ¬ WD σ 7304564) (h4 : ¬ WD σ 125780071117422) (h : NMW σ) (s : SAM σ τ) (f : EFF [(5, σ.1 19, 0, 0)] σ τ) : GOS [20] σ q [51, 23] τ q [] := GOS.ev (by decide) s.2.2 (by rw [s.1, s.2.1]; exact (if_neg h1).trans ((if_neg h2).trans ((if_neg (fun x => x.elim h3 h4)).trans (if_pos ((nam_iff σ).mpr h))))) rfl f
theorem g20f (h1 : ¬ WD σ 512852847717) (h2 : ¬ WD σ 26982) (h3 : ¬ WD σ 7304564) (h4 : ¬ WD σ 125780071117422) (h : ¬ NMW σ) (w : WRG σ τ) : GOF [20] σ q τ := GOF.one (by decide) w ((if_neg h1).trans ((if_neg h2).trans ((if_neg (fun x => x.elim h3 h4)).trans (if_neg (fun x => h ((nam_iff σ).mp x))))))
theorem g21 (a : ADVm σ τ) : GOS [21] σ q [2, 51, 28, 24] τ q [] := GOS.one (by decide) a.2.2.1 a.2.2.2 rfl (by rw [a.1, a.2.1]; rfl)
theorem g22 (a : ADVm σ τ) : GOS [22] σ q [52, 2, 51, 28, 52] τ q [] := GOS.one (by decide) a.2.2.1 a.2.2.2 rfl (by rw [a.1, a.2.1]; rfl)
theorem g23 (a1 : tks τ = advT (sv σ) (σ.1 20)) (a2 : xs τ = xs σ) (a3 : sv τ = sv σ) (f : EFF [(4, σ.1 19, 0, σ.2.2 24 0)] σ τ) : GOS [23] σ q [161, 25] τ q [] := GOS.ev (by decide) a3 (by rw [a1, a2]; rfl) rfl f
theorem g39 (a : ADVm σ τ) : GOS [39] σ q [2, 51, 159] τ q [] := GOS.one (by decide) a.2.2.1 a.2.2.2 rfl (by rw [a.1, a.2.1]; rfl)
theorem g24y (h : WD σ 1701606245) (a : ADVm σ τ) : GOS [24] σ q [52, 28, 51] τ q [] := GOS.one (by decide) a.2.2.1 a.2.2.2 rfl (by rw [a.1, a.2.1]; exact if_pos h)
theorem g24n (h : ¬ WD σ 1701606245) : GOS [24] σ q [51] σ q [] := GOS.one (by decide) rfl rfl rfl (if_neg h)
theorem g25c (h : NMW σ) (a : ADVm σ τ) (h2 : SG τ 40) : GOS [25] σ q [26, 159] τ (σ.2.2 24 0, 0, σ.1 19, q.2.2.2) [] := by
  have e : sgn (advT (sv σ) (tks σ).2.1) 40 := by rw [show advT (sv σ) (tks σ).2.1 = tks τ from a.1.symm]; exact h2
  exact GOS.one (by decide) a.2.2.1 a.2.2.2 rfl (by rw [a.1, a.2.1]; exact (if_pos ((nam_iff σ).mpr h)).trans (if_pos e))
theorem g25b {υ : MS} (h : NMW σ) (a : ADVm σ τ) (h2 : ¬ SG τ 40) (e : tks υ = (σ.1 19, σ.1 20, 2, τ.1 23, σ.2.2 24 0)) (e2 : xs υ = xs σ) (e3 : sv υ = sv σ) (e4 : srt υ = srt σ) : GOS [25] σ q [2, 52, 159] υ q [] := GOS.one (by decide) e3 e4 rfl (by
  have e0 : ¬ sgn (advT (sv σ) (tks σ).2.1) 40 := by rw [show advT (sv σ) (tks σ).2.1 = tks τ from a.1.symm]; exact h2
  have e1 : (advT (sv σ) (tks σ).2.1).2.2.2.1 = τ.1 23 := by rw [show advT (sv σ) (tks σ).2.1 = tks τ from a.1.symm]; rfl
  rw [e, e2, ← e1]; exact (if_pos ((nam_iff σ).mpr h)).trans (if_neg e0))
theorem g25n (h : ¬ NMW σ) : GOS [25] σ q [2, 52, 159] σ q [] := GOS.one (by decide) rfl rfl rfl (if_neg (fun x => h ((nam_iff σ).mp x)))
theorem g26y (a : ADVm σ τ) (h : SG τ 41) : GOS [26] σ q [38, 141] τ q [] := GOS.one (by decide) a.2.2.1 a.2.2.2 rfl (by
  have e : sgn (advT (sv σ) (tks σ).2.1) 41 := by rw [show advT (sv σ) (tks σ).2.1 = tks τ from a.1.symm]; exact h
  rw [a.1, a.2.1]; exact if_pos e)
theorem g26n (a : ADVm σ τ) (h : ¬ SG τ 41) : GOS [26] σ q [2, 27] τ q [] := GOS.one (by decide) a.2.2.1 a.2.2.2 rfl (by
  have e : ¬ sgn (advT (sv σ) (tks σ).2.1) 41 := by rw [show advT (sv σ) (tks σ).2.1 = tks τ from a.1.symm]; exact h
  rw [a.1, a.2.1]; exact if_neg e)
theorem g27y (h : SG σ 44) (a : ADVm σ τ) : GOS [27] σ q [2, 27] τ (q.1, q.2.1 + 1, q.2.2) [] := GOS.one (by decide) a.2.2.1 a.2.2.2 rfl (by rw [a.1, a.2.1]; exact if_pos h)
theorem g27n (h : ¬ SG σ 44) : GOS [27] σ q [38, 141] σ (q.1, q.2.1 + 1, q.2.2) [] := GOS.one (by decide) rfl rfl rfl (if_neg h)
theorem g38 (a1 : tks τ = tks σ) (a2 : xs τ = (σ.1 28, σ.1 29, σ.1 34 + 2)) (a3 : sv τ = sv σ) (f : EFF [(1, q.2.2.1, q.2.1, q.1)] σ τ) : GOS [38] σ q [] τ (0, 0, 0, q.2.2.2) [(1, q.2.1, q.1)] := GOS.ev (by decide) a3 (by rw [a1, a2]; rfl) rfl f
theorem g28f (h : σ.1 29 = 6) (w : WRG σ τ) : GOF [28] σ q τ := GOF.one (by decide) w (if_pos h)
theorem g28 (h : ¬ σ.1 29 = 6) (a : CHG σ τ (σ.1 28, σ.1 29 + 1, σ.1 34)) : GOS [28] σ q [223, 29] τ q [] := GOS.one (by decide) a.2.2.1 a.2.2.2 rfl (by rw [a.1, a.2.1]; exact if_neg h)
theorem g29y (h : SG σ 125) (a : ADVm σ τ) : GOS [29] σ q [40] τ q [] := GOS.one (by decide) a.2.2.1 a.2.2.2 rfl (by rw [a.1, a.2.1]; exact if_pos h)
theorem g29n (h : ¬ SG σ 125) : GOS [29] σ q [20, 29] σ q [] := GOS.one (by decide) rfl rfl rfl (if_neg h)
theorem g40 (a : CHG σ τ (σ.1 28, σ.1 29 - 1, σ.1 34)) : GOS [40] σ q [] τ q [] := GOS.one (by decide) a.2.2.1 a.2.2.2 rfl (by rw [a.1, a.2.1]; rfl)
theorem g30 (h : NMW σ) (a1 : tks τ = advT (sv σ) (σ.1 20)) (a2 : xs τ = xs σ) (a3 : sv τ = sv σ) (f : EFF [(2, σ.1 19, 0, σ.2.2 24 0)] σ τ) : GOS [30] σ q [140, 31] τ (q.1, q.2.1, q.2.2.1, 0, σ.1 19) [] := GOS.ev (by decide) a3 (by rw [a1, a2]; exact if_pos ((nam_iff σ).mpr h)) rfl f
theorem g30f (h : ¬ NMW σ) (w : WRG σ τ) : GOF [30] σ q τ := GOF.one (by decide) w (if_neg (fun x => h ((nam_iff σ).mp x)))
theorem g31y (h : SG σ 41) (s : SAM σ τ) (f : EFF [(7, 0, q.2.2.2.1, 0)] σ τ) : GOS [31] σ q [141, 35] τ q [] := GOS.ev (by decide) s.2.2 (by rw [s.1, s.2.1]; exact if_pos h) (if_pos h) f
theorem g31n (h : ¬ SG σ 41) : GOS [31] σ q [32] σ q [] := GOS.one (by decide) rfl rfl (if_neg h) (if_neg h)
theorem g32 (h : NMW σ) (a1 : tks τ = advT (sv σ) (σ.1 20)) (a2 : xs τ = xs σ) (a3 : sv τ = sv σ) (f : EFF [(3, σ.1 19, q.2.2.2.1, σ.2.2 24 0)] σ τ) : GOS [32] σ q [33] τ (q.1, q.2.1, q.2.2.1, q.2.2.2.1 + 1, q.2.2.2.2) [] := GOS.ev (by decide) a3 (by rw [a1, a2]; exact if_pos ((nam_iff σ).mpr h)) rfl f
theorem g32f (h : ¬ NMW σ) (w : WRG σ τ) : GOF [32] σ q τ := GOF.one (by decide) w (if_neg (fun x => h ((nam_iff σ).mp x)))
theorem g33y (h : SG σ 44) (a : ADVm σ τ) : GOS [33] σ q [32] τ q [] := GOS.one (by decide) a.2.2.1 a.2.2.2 (if_pos h) (by rw [a.1, a.2.1]; exact if_pos h)
theorem g33n (h : ¬ SG σ 44) (s : SAM σ τ) (f : EFF [(7, 0, q.2.2.2.1, 0)] σ τ) : GOS [33] σ q [141, 35] τ q [] := GOS.ev (by decide) s.2.2 (by rw [s.1, s.2.1]; exact if_neg h) (if_neg h) f
theorem g34 (s : SAM σ τ) (f : EFF [(0, q.2.2.2.2, σ.1 34, 0)] σ τ) : GOS [34] σ q [] τ (q.1, q.2.1, q.2.2.1, q.2.2.2.1, 0) [(0, σ.1 34, 0)] := GOS.ev (by decide) s.2.2 (by rw [s.1, s.2.1]; rfl) rfl f
theorem g35 (a : CHG σ τ (σ.1 28, σ.1 29, 0)) : GOS [35] σ q [28, 51, 34] τ (q.1, q.2.1, q.2.2.1, 0, q.2.2.2.2) [] := GOS.one (by decide) a.2.2.1 a.2.2.2 rfl (by rw [a.1, a.2.1]; rfl)
theorem g36y (h : σ.1 22 = 0) : GOS [36] σ q [] σ q [] := GOS.one (by decide) rfl rfl rfl (if_pos h)
theorem g36n (h : ¬ σ.1 22 = 0) : GOS [36] σ q [30, 36] σ q [] := GOS.one (by decide) rfl rfl rfl (if_neg h)
theorem gn_40 (h : SG σ 40) (a : ADVm σ τ) : GOS [140] σ q [] τ q [] := GOS.one (by decide) a.2.2.1 a.2.2.2 rfl (by rw [a.1, a.2.1]; exact if_pos h)
theorem gn_41 (h : SG σ 41) (a : ADVm σ τ) : GOS [141] σ q [] τ q [] := GOS.one (by decide) a.2.2.1 a.2.2.2 rfl (by rw [a.1, a.2.1]; exact if_pos h)
theorem gn_59 (h : SG σ 59) (a : ADVm σ τ) : GOS [159] σ q [] τ q [] := GOS.one (by decide) a.2.2.1 a.2.2.2 rfl (by rw [a.1, a.2.1]; exact if_pos h)
theorem gn_61 (h : SG σ 61) (a : ADVm σ τ) : GOS [161] σ q [] τ q [] := GOS.one (by decide) a.2.2.1 a.2.2.2 rfl (by rw [a.1, a.2.1]; exact if_pos h)
theorem gn_123 (h : SG σ 123) (a : ADVm σ τ) : GOS [223] σ q [] τ q [] := GOS.one (by decide) a.2.2.1 a.2.2.2 rfl (by rw [a.1, a.2.1]; exact if_pos h)
theorem gf_40 (h : ¬ SG σ 40) (w : WRG σ τ) : GOF [140] σ q τ := GOF.one (by decide) w (if_neg h)
theorem gf_41 (h : ¬ SG σ 41) (w : WRG σ τ) : GOF [141] σ q τ := GOF.one (by decide) w (if_neg h)
theorem gf_59 (h : ¬ SG σ 59) (w : WRG σ τ) : GOF [159] σ q τ := GOF.one (by decide) w (if_neg h)
theorem gf_61 (h : ¬ SG σ 61) (w : WRG σ τ) : GOF [161] σ q τ := GOF.one (by decide) w (if_neg h)
theorem gf_123 (h : ¬ SG σ 123) (w : WRG σ τ) : GOF [223] σ q τ := GOF.one (by decide) w (if_neg h)
end TAGS

