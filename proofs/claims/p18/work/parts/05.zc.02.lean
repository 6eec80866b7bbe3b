section
def NMW (σ : MS) : Prop := σ.1 22 = 2 ∧ ¬ σ.2.2 24 0 = 7304564 ∧ ¬ σ.2.2 24 0 = 125780071117422 ∧ ¬ σ.2.2 24 0 = 26982 ∧ ¬ σ.2.2 24 0 = 1701606245 ∧ ¬ σ.2.2 24 0 = 512852847717
def an5 (z : Int) : Int := (iI z &&& iI 255).toInt
theorem an5_eq (z : Int) : iI (an5 z) = iI z &&& iI 255 := iI_self _
theorem an5_r (z : Int) : 0 ≤ an5 z ∧ an5 z ≤ 255 := by
  obtain ⟨w, h1, h2, h3⟩ := iI_and255 (z := z)
  unfold an5
  rw [h1, iI_toInt ⟨by omega, by omega⟩]
  exact ⟨h2, h3⟩
def sv (σ : MS) : Int → Int := fun k => if k < σ.1 21 then an5 (σ.2.1 1 k) else -1
def tks (σ : MS) : TK := (σ.1 19, σ.1 20, σ.1 22, σ.1 23, σ.2.2 24 0)
def xs (σ : MS) : Int × Int × Int := (σ.1 28, σ.1 29, σ.1 34)
def cfg (K : List Nat) (σ : MS) (q : QR) (ρ : List EV) : PCf := (K, tks σ, xs σ, q, ρ)
def srt (σ : MS) : (Int × Int × Int × Int × Int × Int) × ((Int → Int) × (Int → Int) × (Int → Int)) × (Int → Int64) × (Int → Int64) := ((σ.1 25, σ.1 26, σ.1 27, σ.1 30, σ.1 31, σ.1 43), (σ.2.1 35, σ.2.1 36, σ.2.1 45), σ.2.2 38, σ.2.2 44)
theorem srt_mk {σ τ : MS} (h25 : τ.1 25 = σ.1 25) (h26 : τ.1 26 = σ.1 26) (h27 : τ.1 27 = σ.1 27) (h30 : τ.1 30 = σ.1 30) (h31 : τ.1 31 = σ.1 31) (h43 : τ.1 43 = σ.1 43) (a35 : τ.2.1 35 = σ.2.1 35) (a36 : τ.2.1 36 = σ.2.1 36) (a45 : τ.2.1 45 = σ.2.1 45) (j38 : τ.2.2 38 = σ.2.2 38) (j44 : τ.2.2 44 = σ.2.2 44) : srt τ = srt σ := by
  unfold srt
  rw [h25, h26, h27, h30, h31, h43, a35, a36, a45, j38, j44]
section SRT
variable {σ τ : MS}
theorem srt_25 (h : srt τ = srt σ) : τ.1 25 = σ.1 25 := congrArg (fun z => z.1.1) h
theorem srt_26 (h : srt τ = srt σ) : τ.1 26 = σ.1 26 := congrArg (fun z => z.1.2.1) h
theorem srt_27 (h : srt τ = srt σ) : τ.1 27 = σ.1 27 := congrArg (fun z => z.1.2.2.1) h
theorem srt_30 (h : srt τ = srt σ) : τ.1 30 = σ.1 30 := congrArg (fun z => z.1.2.2.2.1) h
theorem srt_31 (h : srt τ = srt σ) : τ.1 31 = σ.1 31 := congrArg (fun z => z.1.2.2.2.2.1) h
theorem srt_43 (h : srt τ = srt σ) : τ.1 43 = σ.1 43 := congrArg (fun z => z.1.2.2.2.2.2) h
theorem srt_35 (h : srt τ = srt σ) : τ.2.1 35 = σ.2.1 35 := congrArg (fun z => z.2.1.1) h
theorem srt_36 (h : srt τ = srt σ) : τ.2.1 36 = σ.2.1 36 := congrArg (fun z => z.2.1.2.1) h
theorem srt_45 (h : srt τ = srt σ) : τ.2.1 45 = σ.2.1 45 := congrArg (fun z => z.2.1.2.2) h
theorem srt_38 (h : srt τ = srt σ) : τ.2.2 38 = σ.2.2 38 := congrArg (fun z => z.2.2.1) h
theorem srt_44 (h : srt τ = srt σ) : τ.2.2 44 = σ.2.2 44 := congrArg (fun z => z.2.2.2) h
end SRT
theorem srt_fr {ss ks js : List Nat} {σ τ : MS} (f : Fr ss ks js σ τ) (h : ∀ k ∈ [25, 26, 27, 30, 31, 43], k ∉ ss) (h2 : ∀ k ∈ [35, 36, 45], k ∉ ks) (h3 : ∀ k ∈ [38, 44], k ∉ js) : srt τ = srt σ := srt_mk (f.1 25 (h 25 (by decide))) (f.1 26 (h 26 (by decide))) (f.1 27 (h 27 (by decide))) (f.1 30 (h 30 (by decide))) (f.1 31 (h 31 (by decide))) (f.1 43 (h 43 (by decide))) (f.2.1 35 (h2 35 (by decide))) (f.2.1 36 (h2 36 (by decide))) (f.2.1 45 (h2 45 (by decide))) (f.2.2 38 (h3 38 (by decide))) (f.2.2 44 (h3 44 (by decide)))
noncomputable def ifP {α : Type} (p : Prop) (a b : α) : α := @ite α p (Classical.propDecidable p) a b
theorem ifP_t {α : Type} {p : Prop} {a b : α} (h : p) : ifP p a b = a := by unfold ifP; exact if_pos h
theorem ifP_f {α : Type} {p : Prop} {a b : α} (h : ¬ p) : ifP p a b = b := by unfold ifP; exact if_neg h
def ntP (f p : Int) (A : MS) : MS := if 0 < A.1 25 ∧ (A.1 26 = 0 ∨ p < A.1 27 ∨ (p = A.1 27 ∧ f < A.1 26)) then sS 27 p (sS 26 f A) else A
def NFD (A : MS) (w : Int64) : Prop := ∃ n, 0 ≤ n ∧ n < A.2.1 35 (A.1 30) ∧ A.2.2 38 (12 * A.1 30 + n) = w
noncomputable def nmP (w : Int64) (p : Int) (A : MS) : MS := ifP (A.1 30 < 6) (ifP (NFD A w) A (ifP (A.2.1 35 (A.1 30) = 12) (ntP 5 p A) (ifP (A.1 25 = 1) (sA 35 (A.1 30) (A.2.1 35 (A.1 30) + 1) (sJ 38 (12 * A.1 30 + A.2.1 35 (A.1 30)) w A)) A))) A
def RFD (A : MS) (w : Int64) (q : Int) : Prop := 0 ≤ q ∧ q < A.1 43 ∧ A.2.2 44 q = w ∧ ∀ j, 0 ≤ j → j < q → A.2.2 44 j ≠ w
noncomputable def rnP (w : Int64) (p : Int) (A : MS) : MS := ifP (A.1 25 = 1) (sS 43 (A.1 43 + 1) (sJ 44 (A.1 43) w (ifP (∃ q, RFD A w q) (ntP 2 p (ifP (A.1 30 = 6) (ntP 5 p A) A)) (ifP (A.1 30 = 6) (ntP 5 p A) A)))) A
noncomputable def paP (w : Int64) (p m : Int) (A : MS) : MS := ifP (A.1 25 = 1) (nmP w p (ifP (A.1 30 < 6 ∧ NFD A w) (ntP 2 p (ifP (m = 4) (ntP 5 p A) A)) (ifP (m = 4) (ntP 5 p A) A))) A
noncomputable def peP (m : Int) (A : MS) : MS := ifP (A.1 25 = 1) (ifP (A.1 30 < 6) (sA 36 (A.1 30) (if 4 < m then 4 else m) (sA 45 (A.1 43 - 1) m A)) (sA 45 (A.1 43 - 1) m A)) A
def lnP (p : Int) (A : MS) : MS := if A.1 31 + 1 = 41 then ntP 5 p (sS 31 (A.1 31 + 1) A) else sS 31 (A.1 31 + 1) A
noncomputable def clP (w : Int64) (p m : Int) (A : MS) : MS := ifP (A.1 25 = 2) (ifP (∃ q, RFD A w q) (ifP (∃ q, RFD A w q ∧ m ≠ A.2.1 45 q) (ntP 4 p A) A) (ntP 3 p A)) A
def reP (p m : Int) (A : MS) : MS := if A.1 25 = 2 ∧ 120 < m then sS 30 (A.1 30 + 1) (ntP 5 p A) else sS 30 (A.1 30 + 1) A
noncomputable def upR (A : MS) (e : EW) : MS :=
  if e.1 = 2 then rnP e.2.2.2 e.2.1 A
  else if e.1 = 3 then paP e.2.2.2 e.2.1 e.2.2.1 A
  else if e.1 = 7 then peP e.2.2.1 A
  else if e.1 = 4 then nmP e.2.2.2 e.2.1 A
  else if e.1 = 5 then lnP e.2.1 A
  else if e.1 = 1 then clP e.2.2.2 e.2.1 e.2.2.1 A
  else if e.1 = 0 then reP e.2.1 e.2.2.1 A
  else A
section SRC
variable {A σ : MS}
theorem srt_nt (h : srt A = srt σ) {f p : Int} : srt (ntP f p A) = srt (ntP f p σ) := by
  unfold ntP
  rw [srt_25 h, srt_26 h, srt_27 h]
  split
  · exact srt_mk (show A.1 25 = σ.1 25 from srt_25 h) rfl rfl (show A.1 30 = σ.1 30 from srt_30 h) (show A.1 31 = σ.1 31 from srt_31 h) (show A.1 43 = σ.1 43 from srt_43 h) (show A.2.1 35 = σ.2.1 35 from srt_35 h) (show A.2.1 36 = σ.2.1 36 from srt_36 h) (show A.2.1 45 = σ.2.1 45 from srt_45 h) (show A.2.2 38 = σ.2.2 38 from srt_38 h) (show A.2.2 44 = σ.2.2 44 from srt_44 h)
  · exact h
theorem NFD_c (h : srt A = srt σ) {w : Int64} : NFD A w ↔ NFD σ w := by unfold NFD; rw [srt_35 h, srt_30 h, srt_38 h]
theorem RFD_c (h : srt A = srt σ) {w : Int64} {q : Int} : RFD A w q ↔ RFD σ w q := by unfold RFD; rw [srt_43 h, srt_44 h]
theorem srt_nm (h : srt A = srt σ) {w : Int64} {p : Int} : srt (nmP w p A) = srt (nmP w p σ) := by
  unfold nmP
  rw [srt_30 h]
  by_cases c1 : σ.1 30 < 6
  · rw [ifP_t c1, ifP_t c1]
    by_cases c2 : NFD σ w
    · rw [ifP_t ((NFD_c h).mpr c2), ifP_t c2]; exact h
    · rw [ifP_f (fun z => c2 ((NFD_c h).mp z)), ifP_f c2, srt_35 h]
      by_cases c3 : σ.2.1 35 (σ.1 30) = 12
      · rw [ifP_t c3, ifP_t c3]; exact srt_nt h
      · rw [ifP_f c3, ifP_f c3, srt_25 h]
        by_cases c4 : σ.1 25 = 1
        · rw [ifP_t c4, ifP_t c4]
          refine srt_mk (show A.1 25 = σ.1 25 from srt_25 h) (show A.1 26 = σ.1 26 from srt_26 h) (show A.1 27 = σ.1 27 from srt_27 h) (show A.1 30 = σ.1 30 from srt_30 h) (show A.1 31 = σ.1 31 from srt_31 h) (show A.1 43 = σ.1 43 from srt_43 h) ?_ (show A.2.1 36 = σ.2.1 36 from srt_36 h) (show A.2.1 45 = σ.2.1 45 from srt_45 h) ?_ (show A.2.2 44 = σ.2.2 44 from srt_44 h)
          · simp only [sA, sJ, if_true, srt_35 h]
          · simp only [sA, sJ, if_true, srt_38 h]
        · rw [ifP_f c4, ifP_f c4]; exact h
  · rw [ifP_f c1, ifP_f c1]; exact h
theorem srt_ln (h : srt A = srt σ) {p : Int} : srt (lnP p A) = srt (lnP p σ) := by
  unfold lnP
  rw [srt_31 h]
  have e : srt (sS 31 (σ.1 31 + 1) A) = srt (sS 31 (σ.1 31 + 1) σ) := srt_mk (show A.1 25 = σ.1 25 from srt_25 h) (show A.1 26 = σ.1 26 from srt_26 h) (show A.1 27 = σ.1 27 from srt_27 h) (show A.1 30 = σ.1 30 from srt_30 h) rfl (show A.1 43 = σ.1 43 from srt_43 h) (show A.2.1 35 = σ.2.1 35 from srt_35 h) (show A.2.1 36 = σ.2.1 36 from srt_36 h) (show A.2.1 45 = σ.2.1 45 from srt_45 h) (show A.2.2 38 = σ.2.2 38 from srt_38 h) (show A.2.2 44 = σ.2.2 44 from srt_44 h)
  split
  · exact srt_nt e
  · exact e
theorem srt_cl (h : srt A = srt σ) {w : Int64} {p m : Int} : srt (clP w p m A) = srt (clP w p m σ) := by
  unfold clP
  rw [srt_25 h, srt_45 h]
  have e1 : (∃ q, RFD A w q) ↔ ∃ q, RFD σ w q := ⟨fun z => by obtain ⟨q, y⟩ := z; exact ⟨q, (RFD_c h).mp y⟩, fun z => by obtain ⟨q, y⟩ := z; exact ⟨q, (RFD_c h).mpr y⟩⟩
  have e2 : (∃ q, RFD A w q ∧ m ≠ σ.2.1 45 q) ↔ ∃ q, RFD σ w q ∧ m ≠ σ.2.1 45 q := ⟨fun z => by obtain ⟨q, y, u⟩ := z; exact ⟨q, (RFD_c h).mp y, u⟩, fun z => by obtain ⟨q, y, u⟩ := z; exact ⟨q, (RFD_c h).mpr y, u⟩⟩
  rw [show (∃ q, RFD A w q) = ∃ q, RFD σ w q from propext e1, show (∃ q, RFD A w q ∧ m ≠ σ.2.1 45 q) = ∃ q, RFD σ w q ∧ m ≠ σ.2.1 45 q from propext e2]
  by_cases c1 : σ.1 25 = 2
  · rw [ifP_t c1, ifP_t c1]
    by_cases c2 : ∃ q, RFD σ w q
    · rw [ifP_t c2, ifP_t c2]
      by_cases c3 : ∃ q, RFD σ w q ∧ m ≠ σ.2.1 45 q
      · rw [ifP_t c3, ifP_t c3]; exact srt_nt h
      · rw [ifP_f c3, ifP_f c3]; exact h
    · rw [ifP_f c2, ifP_f c2]; exact srt_nt h
  · rw [ifP_f c1, ifP_f c1]; exact h
theorem srt_re (h : srt A = srt σ) {p m : Int} : srt (reP p m A) = srt (reP p m σ) := by
  unfold reP
  rw [srt_25 h, srt_30 h]
  have n := srt_nt (f := 5) (p := p) h
  split
  · exact srt_mk (by have q9 := srt_25 n; exact q9) (by have q9 := srt_26 n; exact q9) (by have q9 := srt_27 n; exact q9) rfl (by have q9 := srt_31 n; exact q9) (by have q9 := srt_43 n; exact q9) (by have q9 := srt_35 n; exact q9) (by have q9 := srt_36 n; exact q9) (by have q9 := srt_45 n; exact q9) (by have q9 := srt_38 n; exact q9) (by have q9 := srt_44 n; exact q9)
  · exact srt_mk (show A.1 25 = σ.1 25 from srt_25 h) (show A.1 26 = σ.1 26 from srt_26 h) (show A.1 27 = σ.1 27 from srt_27 h) rfl (show A.1 31 = σ.1 31 from srt_31 h) (show A.1 43 = σ.1 43 from srt_43 h) (show A.2.1 35 = σ.2.1 35 from srt_35 h) (show A.2.1 36 = σ.2.1 36 from srt_36 h) (show A.2.1 45 = σ.2.1 45 from srt_45 h) (show A.2.2 38 = σ.2.2 38 from srt_38 h) (show A.2.2 44 = σ.2.2 44 from srt_44 h)
theorem srt_6 (h : srt A = srt σ) {p : Int} : srt (ifP (A.1 30 = 6) (ntP 5 p A) A) = srt (ifP (σ.1 30 = 6) (ntP 5 p σ) σ) := by
  rw [srt_30 h]
  by_cases c : σ.1 30 = 6
  · rw [ifP_t c, ifP_t c]; exact srt_nt h
  · rw [ifP_f c, ifP_f c]; exact h
theorem srt_rn (h : srt A = srt σ) {w : Int64} {p : Int} : srt (rnP w p A) = srt (rnP w p σ) := by
  unfold rnP
  rw [srt_25 h, srt_43 h]
  have e1 : (∃ q, RFD A w q) ↔ ∃ q, RFD σ w q := ⟨fun z => by obtain ⟨q, y⟩ := z; exact ⟨q, (RFD_c h).mp y⟩, fun z => by obtain ⟨q, y⟩ := z; exact ⟨q, (RFD_c h).mpr y⟩⟩
  rw [show (∃ q, RFD A w q) = ∃ q, RFD σ w q from propext e1]
  have fin : ∀ {B τ : MS}, srt B = srt τ → srt (sS 43 (σ.1 43 + 1) (sJ 44 (σ.1 43) w B)) = srt (sS 43 (σ.1 43 + 1) (sJ 44 (σ.1 43) w τ)) := fun {B τ} n => srt_mk (by have q9 := srt_25 n; exact q9) (by have q9 := srt_26 n; exact q9) (by have q9 := srt_27 n; exact q9) (by have q9 := srt_30 n; exact q9) (by have q9 := srt_31 n; exact q9) rfl (by have q9 := srt_35 n; exact q9) (by have q9 := srt_36 n; exact q9) (by have q9 := srt_45 n; exact q9) (by have q9 := srt_38 n; exact q9) (by simp only [sS, sJ, if_true, srt_44 n])
  by_cases c1 : σ.1 25 = 1
  · rw [ifP_t c1, ifP_t c1]
    by_cases c2 : ∃ q, RFD σ w q
    · rw [ifP_t c2, ifP_t c2]; exact fin (srt_nt (srt_6 h))
    · rw [ifP_f c2, ifP_f c2]; exact fin (srt_6 h)
  · rw [ifP_f c1, ifP_f c1]; exact h
theorem srt_pa (h : srt A = srt σ) {w : Int64} {p m : Int} : srt (paP w p m A) = srt (paP w p m σ) := by
  unfold paP
  rw [srt_25 h, srt_30 h, show NFD A w = NFD σ w from propext (NFD_c h)]
  have h4 : srt (ifP (m = 4) (ntP 5 p A) A) = srt (ifP (m = 4) (ntP 5 p σ) σ) := by
    by_cases c : m = 4
    · rw [ifP_t c, ifP_t c]; exact srt_nt h
    · rw [ifP_f c, ifP_f c]; exact h
  by_cases c1 : σ.1 25 = 1
  · rw [ifP_t c1, ifP_t c1]
    by_cases c2 : σ.1 30 < 6 ∧ NFD σ w
    · rw [ifP_t c2, ifP_t c2]; exact srt_nm (srt_nt h4)
    · rw [ifP_f c2, ifP_f c2]; exact srt_nm h4
  · rw [ifP_f c1, ifP_f c1]; exact h
theorem srt_pe (h : srt A = srt σ) {m : Int} : srt (peP m A) = srt (peP m σ) := by
  unfold peP
  rw [srt_25 h, srt_30 h, srt_43 h]
  by_cases c1 : σ.1 25 = 1
  · rw [ifP_t c1, ifP_t c1]
    by_cases c2 : σ.1 30 < 6
    · rw [ifP_t c2, ifP_t c2]
      exact srt_mk (show A.1 25 = σ.1 25 from srt_25 h) (show A.1 26 = σ.1 26 from srt_26 h) (show A.1 27 = σ.1 27 from srt_27 h) (show A.1 30 = σ.1 30 from srt_30 h) (show A.1 31 = σ.1 31 from srt_31 h) (show A.1 43 = σ.1 43 from srt_43 h) (show A.2.1 35 = σ.2.1 35 from srt_35 h) (by simp [sA, srt_36 h]) (by simp [sA, srt_45 h]) (show A.2.2 38 = σ.2.2 38 from srt_38 h) (show A.2.2 44 = σ.2.2 44 from srt_44 h)
    · rw [ifP_f c2, ifP_f c2]
      exact srt_mk (show A.1 25 = σ.1 25 from srt_25 h) (show A.1 26 = σ.1 26 from srt_26 h) (show A.1 27 = σ.1 27 from srt_27 h) (show A.1 30 = σ.1 30 from srt_30 h) (show A.1 31 = σ.1 31 from srt_31 h) (show A.1 43 = σ.1 43 from srt_43 h) (show A.2.1 35 = σ.2.1 35 from srt_35 h) (show A.2.1 36 = σ.2.1 36 from srt_36 h) (by simp [sA, srt_45 h]) (show A.2.2 38 = σ.2.2 38 from srt_38 h) (show A.2.2 44 = σ.2.2 44 from srt_44 h)
  · rw [ifP_f c1, ifP_f c1]; exact h
end SRC
theorem ntP_25 {f p : Int} {A : MS} : (ntP f p A).1 25 = A.1 25 := by unfold ntP; split <;> rfl
theorem ntP_0 {f p : Int} {A : MS} (h : A.1 25 = 0) : ntP f p A = A := by unfold ntP; rw [if_neg (by omega)]
def EFF (es : List EW) (σ τ : MS) : Prop := ∀ A, srt A = srt σ → srt (es.foldl upR A) = srt τ
theorem EFF.nil {σ τ : MS} (h : srt τ = srt σ) : EFF [] σ τ := fun _ a => a.trans h.symm
theorem EFF.trans {e1 e2 : List EW} {σ τ υ : MS} (h : EFF e1 σ τ) (g : EFF e2 τ υ) : EFF (e1 ++ e2) σ υ := fun A a => by
  rw [List.foldl_append]
  exact g _ (h A a)
theorem EFF.last {es : List EW} {σ τ υ : MS} (h : EFF es σ τ) (e : srt υ = srt τ) : EFF es σ υ := fun A a => (h A a).trans e.symm
theorem EFF.name {w : Int64} {p : Int} {σ τ : MS} (h : srt τ = srt (nmP w p σ)) : EFF [(4, p, 0, w)] σ τ := fun _ a => (srt_nm a).trans h.symm
theorem EFF.line {p : Int} {σ τ : MS} (h : srt τ = srt (lnP p σ)) : EFF [(5, p, 0, 0)] σ τ := fun _ a => (srt_ln a).trans h.symm
theorem EFF.call {w : Int64} {p m : Int} {σ τ : MS} (h : srt τ = srt (clP w p m σ)) : EFF [(1, p, m, w)] σ τ := fun _ a => (srt_cl a).trans h.symm
theorem EFF.rout {w : Int64} {p : Int} {σ τ : MS} (h : srt τ = srt (rnP w p σ)) : EFF [(2, p, 0, w)] σ τ := fun _ a => (srt_rn a).trans h.symm
theorem EFF.para {w : Int64} {p m : Int} {σ τ : MS} (h : srt τ = srt (paP w p m σ)) : EFF [(3, p, m, w)] σ τ := fun _ a => (srt_pa a).trans h.symm
theorem EFF.pend {m : Int} {σ τ : MS} (h : srt τ = srt (peP m σ)) : EFF [(7, 0, m, 0)] σ τ := fun _ a => (srt_pe a).trans h.symm
theorem EFF.rend {p m : Int} {σ τ : MS} (h : srt τ = srt (reP p m σ)) : EFF [(0, p, m, 0)] σ τ := fun _ a => (srt_re a).trans h.symm
theorem nmP_25 {w : Int64} {p : Int} {B : MS} : (nmP w p B).1 25 = B.1 25 := by
  unfold nmP
  by_cases c1 : B.1 30 < 6
  · rw [ifP_t c1]
    by_cases c2 : NFD B w
    · rw [ifP_t c2]
    · rw [ifP_f c2]
      by_cases c3 : B.2.1 35 (B.1 30) = 12
      · rw [ifP_t c3, ntP_25]
      · rw [ifP_f c3]
        by_cases c4 : B.1 25 = 1
        · rw [ifP_t c4]; rfl
        · rw [ifP_f c4]
  · rw [ifP_f c1]
theorem if25 {p : Prop} {a b : MS} {z : Int} (h1 : a.1 25 = z) (h2 : b.1 25 = z) : (ifP p a b).1 25 = z := by
  by_cases c : p
  · rw [ifP_t c]; exact h1
  · rw [ifP_f c]; exact h2
theorem upR_25 (A : MS) (e : EW) : (upR A e).1 25 = A.1 25 := by
  unfold upR
  split
  · unfold rnP
    refine if25 (show (ifP _ _ _ : MS).1 25 = _ from if25 ?_ ?_) rfl
    · rw [ntP_25]; exact if25 ntP_25 rfl
    · exact if25 ntP_25 rfl
  split
  · unfold paP
    refine if25 ?_ rfl
    rw [nmP_25]
    refine if25 ?_ ?_
    · rw [ntP_25]; exact if25 ntP_25 rfl
    · exact if25 ntP_25 rfl
  split
  · unfold peP
    exact if25 (if25 rfl rfl) rfl
  split
  · exact nmP_25
  split
  · unfold lnP
    split
    · rw [ntP_25]; rfl
    · rfl
  split
  · unfold clP
    exact if25 (if25 (if25 ntP_25 rfl) ntP_25) rfl
  split
  · unfold reP
    split
    · exact ntP_25
    · rfl
  rfl
theorem upR_26 (A : MS) (e : EW) (h : A.1 25 = 0) : (upR A e).1 26 = A.1 26 := by
  have h1 : ¬ A.1 25 = 1 := by omega
  have h2 : ¬ A.1 25 = 2 := by omega
  unfold upR
  split
  · unfold rnP; rw [ifP_f h1]
  split
  · unfold paP; rw [ifP_f h1]
  split
  · unfold peP; rw [ifP_f h1]
  split
  · unfold nmP
    rw [ntP_0 h, ifP_f h1]
    by_cases c1 : A.1 30 < 6
    · rw [ifP_t c1]
      by_cases c2 : NFD A e.2.2.2
      · rw [ifP_t c2]
      · rw [ifP_f c2]
        by_cases c3 : A.2.1 35 (A.1 30) = 12
        · rw [ifP_t c3]
        · rw [ifP_f c3]
    · rw [ifP_f c1]
  split
  · unfold lnP
    split
    · rw [ntP_0 (show (sS 31 (A.1 31 + 1) A).1 25 = 0 from h)]; rfl
    · rfl
  split
  · unfold clP; rw [ifP_f h2]
  split
  · unfold reP; rw [if_neg (by omega)]; rfl
  rfl
theorem fold_25 (es : List EW) (A : MS) : (es.foldl upR A).1 25 = A.1 25 := by
  induction es generalizing A with
  | nil => rfl
  | cons e es ih => rw [List.foldl_cons, ih, upR_25]
theorem fold_26 (es : List EW) (A : MS) (h : A.1 25 = 0) : (es.foldl upR A).1 26 = A.1 26 := by
  induction es generalizing A with
  | nil => rfl
  | cons e es ih => rw [List.foldl_cons, ih _ (by rw [upR_25]; exact h), upR_26 A e h]
theorem EFF.p25 {es : List EW} {σ τ : MS} (h : EFF es σ τ) : τ.1 25 = σ.1 25 := (srt_25 (h σ rfl)).symm.trans (fold_25 es σ)
theorem EFF.p26 {es : List EW} {σ τ : MS} (h : EFF es σ τ) (h0 : σ.1 25 = 0) : τ.1 26 = σ.1 26 := (srt_26 (h σ rfl)).symm.trans (fold_26 es σ h0)
def vw (σ : MS) : TK × (Int × Int × Int) × (Int → Int) := (tks σ, xs σ, sv σ)
theorem sv_fr {ss ks js : List Nat} {σ τ : MS} (f : Fr ss ks js σ τ) (h1 : 21 ∉ ss) (h2 : 1 ∉ ks) : sv τ = sv σ := by unfold sv; rw [f.1 21 h1, f.2.1 1 h2]
theorem vw_fr {ss ks js : List Nat} {σ τ : MS} (f : Fr ss ks js σ τ) (h : ∀ k ∈ [19, 20, 21, 22, 23, 28, 29, 34], k ∉ ss) (h2 : 1 ∉ ks) (h3 : 24 ∉ js) : vw τ = vw σ := by
  unfold vw tks xs
  rw [sv_fr f (h 21 (by decide)) h2, f.1 19 (h 19 (by decide)), f.1 20 (h 20 (by decide)), f.1 22 (h 22 (by decide)), f.1 23 (h 23 (by decide)), f.1 28 (h 28 (by decide)), f.1 29 (h 29 (by decide)), f.1 34 (h 34 (by decide)), f.2.2 24 h3]
def GOS (ks : List Nat) (σ : MS) (q : QR) (ks' : List Nat) (τ : MS) (q' : QR) (lg : List EV) : Prop := sv τ = sv σ ∧ ∃ es, (∀ K ρ, RE (sv σ) (cfg (ks ++ K) σ q ρ) es (cfg (ks' ++ K) τ q' (ρ ++ lg))) ∧ EFF es σ τ
def GOF (ks : List Nat) (σ : MS) (q : QR) (τ : MS) : Prop := ∃ es p, (∀ K ρ, RE (sv σ) (cfg (ks ++ K) σ q ρ) (es ++ [(9, p, 0, 0)]) pF) ∧ (σ.1 25 = 0 → σ.1 26 = 0 → τ.1 26 = 1 ∧ τ.1 27 = p)
def WRG (σ τ : MS) : Prop := σ.1 26 = 0 → τ.1 26 = 1 ∧ τ.1 27 = σ.1 19
section GO
variable {a b c : List Nat} {σ τ υ : MS} {q q1 q2 : QR} {l1 l2 : List EV}
theorem GOS.rc (h : GOS a σ q b τ q1 l1) : ∀ K ρ, RCm (sv σ) (cfg (a ++ K) σ q ρ) (cfg (b ++ K) τ q1 (ρ ++ l1)) := fun K ρ => by
  obtain ⟨-, es, h2, -⟩ := h
  exact (h2 K ρ).rc
theorem GOF.rc (h : GOF a σ q τ) : ∀ K ρ, RCm (sv σ) (cfg (a ++ K) σ q ρ) pF := fun K ρ => by
  obtain ⟨es, p, h2, -⟩ := h
  exact (h2 K ρ).rc
theorem GOS.trans (h : GOS a σ q b τ q1 l1) (g : GOS b τ q1 c υ q2 l2) : GOS a σ q c υ q2 (l1 ++ l2) := by
  obtain ⟨h1, e1, h2, h3⟩ := h
  obtain ⟨g1, e2, g2, g3⟩ := g
  refine ⟨g1.trans h1, e1 ++ e2, fun K ρ => ?_, h3.trans g3⟩
  have x := h2 K ρ
  have y := g2 K (ρ ++ l1)
  rw [h1, List.append_assoc] at y
  exact x.trans y
theorem GOS.fail (h : GOS a σ q b τ q1 l1) (g : GOF b τ q1 υ) : GOF a σ q υ := by
  obtain ⟨h1, e1, h2, h3⟩ := h
  obtain ⟨e2, p, g2, g3⟩ := g
  refine ⟨e1 ++ e2, p, fun K ρ => ?_, fun z1 z2 => g3 (h3.p25.trans z1) ((h3.p26 z1).trans z2)⟩
  have x := h2 K ρ
  have y := g2 K (ρ ++ l1)
  rw [h1] at y
  rw [List.append_assoc]
  exact x.trans y
theorem GOF.mv (h : GOF a σ q τ) (e26 : υ.1 26 = τ.1 26) (e27 : υ.1 27 = τ.1 27) : GOF a σ q υ := by
  obtain ⟨es, p, h2, h3⟩ := h
  exact ⟨es, p, h2, fun z1 z2 => by rw [e26, e27]; exact h3 z1 z2⟩
theorem GOS.more (x : List Nat) (h : GOS a σ q b τ q1 l1) : GOS (a ++ x) σ q (b ++ x) τ q1 l1 := by
  obtain ⟨h1, es, h2, h3⟩ := h
  refine ⟨h1, es, fun K ρ => ?_, h3⟩
  have y := h2 (x ++ K) ρ
  rw [← List.append_assoc, ← List.append_assoc] at y
  exact y
theorem GOF.more (x : List Nat) (h : GOF a σ q τ) : GOF (a ++ x) σ q τ := by
  obtain ⟨es, p, h2, h3⟩ := h
  refine ⟨es, p, fun K ρ => ?_, h3⟩
  have y := h2 (x ++ K) ρ
  rw [← List.append_assoc] at y
  exact y
theorem GOS.nop (h : vw τ = vw σ) (hr : srt τ = srt σ) : GOS a σ q a τ q [] := by
  unfold vw at h
  have h1 := congrArg Prod.fst h
  have h2 := congrArg (fun x => x.2.1) h
  have h3 := congrArg (fun x => x.2.2) h
  simp only at h1 h2 h3
  refine ⟨h3, [], fun K ρ => ?_, EFF.nil hr⟩
  unfold cfg
  rw [h1, h2, List.append_nil]
  exact RE.rfl
theorem GOS.then (h : GOS a σ q b τ q1 []) (g : GOS b τ q1 c υ q2 l2) : GOS a σ q c υ q2 l2 := h.trans g
theorem GOS.last (h : GOS a σ q b τ q1 l1) (e : vw υ = vw τ) (hr : srt υ = srt τ) : GOS a σ q b υ q1 l1 := by
  have := h.trans (GOS.nop (a := b) (q := q1) e hr)
  rw [List.append_nil] at this
  exact this
theorem GOS.ev {k : Nat} {es : List EW} (hk : k ≠ 999) (hs : sv τ = sv σ) (h : stk (sv σ) k (tks σ) (xs σ) q = some (b, tks τ, xs τ, q1, l1)) (he : evk k (tks σ) (xs σ) q = es) (hf : EFF es σ τ) : GOS [k] σ q b τ q1 l1 := ⟨hs, es, fun K ρ => RE.one (by
  show (match stk (sv σ) k (tks σ) (xs σ) q with
    | none => pF
    | some r => (r.1 ++ K, r.2.1, r.2.2.1, r.2.2.2.1, ρ ++ r.2.2.2.2)) = _
  rw [h]; rfl) ((evt_s hk h).trans he), hf⟩
theorem GOS.one {k : Nat} (hk : k ≠ 999) (hs : sv τ = sv σ) (hr : srt τ = srt σ) (he : evk k (tks σ) (xs σ) q = []) (h : stk (sv σ) k (tks σ) (xs σ) q = some (b, tks τ, xs τ, q1, l1)) : GOS [k] σ q b τ q1 l1 := GOS.ev hk hs h he (EFF.nil hr)
theorem GOF.one {k : Nat} (hk : k ≠ 999) (w : WRG σ τ) (h : stk (sv σ) k (tks σ) (xs σ) q = none) : GOF [k] σ q τ := ⟨[], σ.1 19, fun K ρ => RE.one (by
  show (match stk (sv σ) k (tks σ) (xs σ) q with
    | none => pF
    | some r => (r.1 ++ K, r.2.1, r.2.2.1, r.2.2.2.1, ρ ++ r.2.2.2.2)) = _
  rw [h]) (evt_n hk h), fun _ z => w z⟩
end GO
def ADVm (σ τ : MS) : Prop := tks τ = advT (sv σ) (σ.1 20) ∧ xs τ = xs σ ∧ sv τ = sv σ ∧ srt τ = srt σ
theorem nam_iff (σ : MS) : nam (tks σ) ↔ NMW σ := by unfold nam tks NMW; simp
def SG (σ : MS) (c : Int) : Prop := σ.1 22 = 4 ∧ σ.1 23 = c
def WD (σ : MS) (w : Int64) : Prop := σ.1 22 = 2 ∧ σ.2.2 24 0 = w
def CHG (σ τ : MS) (x : Int × Int × Int) : Prop := tks τ = tks σ ∧ xs τ = x ∧ sv τ = sv σ ∧ srt τ = srt σ
def SAM (σ τ : MS) : Prop := tks τ = tks σ ∧ xs τ = xs σ ∧ sv τ = sv σ
section TAGS
variable {σ τ : MS} {q : QR}
theorem g1n (h3 : ¬ σ.1 22 = 3) (hn : ¬ NMW σ) : ¬ ((tks σ).2.2.1 = 3 ∨ nam (tks σ)) := fun h => h.elim h3 (fun x => hn ((nam_iff σ).mp x))
theorem g1f (h3 : ¬ σ.1 22 = 3) (hn : ¬ NMW σ) (h : ¬ SG σ 40) (w : WRG σ τ) : GOF [1] σ q τ := GOF.one (by decide) w ((if_neg (g1n h3 hn)).trans (if_neg h))
theorem g2f (h : σ.1 28 = 8) (w : WRG σ τ) : GOF [2] σ q τ := GOF.one (by decide) w (if_pos h)
theorem g2 (h : ¬ σ.1 28 = 8) (a : CHG σ τ (σ.1 28 + 1, σ.1 29, σ.1 34)) : GOS [2] σ q [3, 6] τ q [] := GOS.one (by decide) a.2.2.1 a.2.2.2 rfl (by rw [a.1, a.2.1]; exact if_neg h)
theorem g3 : GOS [3] σ q [4, 8] σ q [] := GOS.one (by decide) rfl rfl rfl rfl
theorem g4 : GOS [4] σ q [0, 9] σ q [] := GOS.one (by decide) rfl rfl rfl rfl
theorem g7 (a : CHG σ τ (σ.1 28 - 1, σ.1 29, σ.1 34)) : GOS [7] σ q [] τ q [] := GOS.one (by decide) a.2.2.1 a.2.2.2 rfl (by rw [a.1, a.2.1]; rfl)
theorem g8n (h : ¬ SG σ 43) (h2 : ¬ SG σ 45) : GOS [8] σ q [] σ q [] := GOS.one (by decide) rfl rfl rfl (if_neg (fun x => x.elim h h2))
theorem g51 (a : CHG σ τ (σ.1 28, σ.1 29, σ.1 34 + 1)) : GOS [51] σ q [] τ q [] := GOS.one (by decide) a.2.2.1 a.2.2.2 rfl (by rw [a.1, a.2.1]; rfl)
theorem g52 (a : CHG σ τ (σ.1 28, σ.1 29, σ.1 34 + 2)) : GOS [52] σ q [] τ q [] := GOS.one (by decide) a.2.2.1 a.2.2.2 rfl (by rw [a.1, a.2.1]; rfl)
theorem g20f (h1 : ¬ WD σ 512852847717) (h2 : ¬ WD σ 26982) (h3 : ¬ WD σ 7304564) (h4 : ¬ WD σ 125780071117422) (h : ¬ NMW σ) (w : WRG σ τ) : GOF [20] σ q τ := GOF.one (by decide) w ((if_neg h1).trans ((if_neg h2).trans ((if_neg (fun x => x.elim h3 h4)).trans (if_neg (fun x => h ((nam_iff σ).mp x))))))
theorem g21 (a : ADVm σ τ) : GOS [21] σ q [2, 51, 28, 24] τ q [] := GOS.one (by decide) a.2.2.1 a.2.2.2 rfl (by rw [a.1, a.2.1]; rfl)
theorem g22 (a : ADVm σ τ) : GOS [22] σ q [52, 2, 51, 28, 52] τ q [] := GOS.one (by decide) a.2.2.1 a.2.2.2 rfl (by rw [a.1, a.2.1]; rfl)
theorem g23 (a1 : tks τ = advT (sv σ) (σ.1 20)) (a2 : xs τ = xs σ) (a3 : sv τ = sv σ) (f : EFF [(4, σ.1 19, 0, σ.2.2 24 0)] σ τ) : GOS [23] σ q [161, 25] τ q [] := GOS.ev (by decide) a3 (by rw [a1, a2]; rfl) rfl f
theorem g39 (a : ADVm σ τ) : GOS [39] σ q [2, 51, 159] τ q [] := GOS.one (by decide) a.2.2.1 a.2.2.2 rfl (by rw [a.1, a.2.1]; rfl)
theorem g38 (a1 : tks τ = tks σ) (a2 : xs τ = (σ.1 28, σ.1 29, σ.1 34 + 2)) (a3 : sv τ = sv σ) (f : EFF [(1, q.2.2.1, q.2.1, q.1)] σ τ) : GOS [38] σ q [] τ (0, 0, 0, q.2.2.2) [(1, q.2.1, q.1)] := GOS.ev (by decide) a3 (by rw [a1, a2]; rfl) rfl f
theorem g28f (h : σ.1 29 = 6) (w : WRG σ τ) : GOF [28] σ q τ := GOF.one (by decide) w (if_pos h)
theorem g28 (h : ¬ σ.1 29 = 6) (a : CHG σ τ (σ.1 28, σ.1 29 + 1, σ.1 34)) : GOS [28] σ q [223, 29] τ q [] := GOS.one (by decide) a.2.2.1 a.2.2.2 rfl (by rw [a.1, a.2.1]; exact if_neg h)
theorem g40 (a : CHG σ τ (σ.1 28, σ.1 29 - 1, σ.1 34)) : GOS [40] σ q [] τ q [] := GOS.one (by decide) a.2.2.1 a.2.2.2 rfl (by rw [a.1, a.2.1]; rfl)
theorem g30 (h : NMW σ) (a1 : tks τ = advT (sv σ) (σ.1 20)) (a2 : xs τ = xs σ) (a3 : sv τ = sv σ) (f : EFF [(2, σ.1 19, 0, σ.2.2 24 0)] σ τ) : GOS [30] σ q [140, 31] τ (q.1, q.2.1, q.2.2.1, 0, σ.1 19) [] := GOS.ev (by decide) a3 (by rw [a1, a2]; exact if_pos ((nam_iff σ).mpr h)) rfl f
theorem g30f (h : ¬ NMW σ) (w : WRG σ τ) : GOF [30] σ q τ := GOF.one (by decide) w (if_neg (fun x => h ((nam_iff σ).mp x)))
theorem g32 (h : NMW σ) (a1 : tks τ = advT (sv σ) (σ.1 20)) (a2 : xs τ = xs σ) (a3 : sv τ = sv σ) (f : EFF [(3, σ.1 19, q.2.2.2.1, σ.2.2 24 0)] σ τ) : GOS [32] σ q [33] τ (q.1, q.2.1, q.2.2.1, q.2.2.2.1 + 1, q.2.2.2.2) [] := GOS.ev (by decide) a3 (by rw [a1, a2]; exact if_pos ((nam_iff σ).mpr h)) rfl f
theorem g32f (h : ¬ NMW σ) (w : WRG σ τ) : GOF [32] σ q τ := GOF.one (by decide) w (if_neg (fun x => h ((nam_iff σ).mp x)))
theorem g34 (s : SAM σ τ) (f : EFF [(0, q.2.2.2.2, σ.1 34, 0)] σ τ) : GOS [34] σ q [] τ (q.1, q.2.1, q.2.2.1, q.2.2.2.1, 0) [(0, σ.1 34, 0)] := GOS.ev (by decide) s.2.2 (by rw [s.1, s.2.1]; rfl) rfl f
theorem g35 (a : CHG σ τ (σ.1 28, σ.1 29, 0)) : GOS [35] σ q [28, 51, 34] τ (q.1, q.2.1, q.2.2.1, 0, q.2.2.2.2) [] := GOS.one (by decide) a.2.2.1 a.2.2.2 rfl (by rw [a.1, a.2.1]; rfl)
theorem g36y (h : σ.1 22 = 0) : GOS [36] σ q [] σ q [] := GOS.one (by decide) rfl rfl rfl (if_pos h)
theorem g36n (h : ¬ σ.1 22 = 0) : GOS [36] σ q [30, 36] σ q [] := GOS.one (by decide) rfl rfl rfl (if_neg h)
theorem gf_40 (h : ¬ SG σ 40) (w : WRG σ τ) : GOF [140] σ q τ := GOF.one (by decide) w (if_neg h)
theorem gf_41 (h : ¬ SG σ 41) (w : WRG σ τ) : GOF [141] σ q τ := GOF.one (by decide) w (if_neg h)
theorem gf_59 (h : ¬ SG σ 59) (w : WRG σ τ) : GOF [159] σ q τ := GOF.one (by decide) w (if_neg h)
theorem gf_61 (h : ¬ SG σ 61) (w : WRG σ τ) : GOF [161] σ q τ := GOF.one (by decide) w (if_neg h)
theorem gf_123 (h : ¬ SG σ 123) (w : WRG σ τ) : GOF [223] σ q τ := GOF.one (by decide) w (if_neg h)
end TAGS
end
section
abbrev FP : Type := Int × Int
abbrev NT : Type := Int × Int
def cntN (f p : Int) (a : FP) : FP := if a.1 = 0 ∨ p < a.2 ∨ (p = a.2 ∧ f < a.1) then (f, p) else a
def cnts (M : List NT) (a : FP) : FP := M.foldl (fun a n => cntN n.2 n.1 a) a
def LE2 (m n : NT) : Prop := m.1 < n.1 ∨ (m.1 = n.1 ∧ m.2 ≤ n.2)
theorem LE2.rfl {m : NT} : LE2 m m := Or.inr ⟨Eq.refl _, Int.le_refl _⟩
theorem LE2.trans {l m n : NT} (h : LE2 l m) (g : LE2 m n) : LE2 l n := by unfold LE2 at *; omega
def POS (N : List NT) : Prop := ∀ n ∈ N, 0 < n.2
def LST (N : List NT) (a : FP) : Prop := POS N ∧ ((N = [] ∧ a = (0, -1)) ∨ ((a.2, a.1) ∈ N ∧ ∀ n ∈ N, LE2 (a.2, a.1) n))
theorem LST.nil : LST [] (0, -1) := ⟨fun _ h => absurd h (by simp), Or.inl ⟨rfl, rfl⟩⟩
theorem LST.add {N : List NT} {a : FP} {f p : Int} (h : LST N a) (hf : 0 < f) : LST (N ++ [(p, f)]) (cntN f p a) := by
  obtain ⟨h0, h1⟩ := h
  refine ⟨fun n q => ?_, Or.inr ?_⟩
  · rcases List.mem_append.mp q with q | q
    · exact h0 n q
    · rw [List.mem_singleton.mp q]; exact hf
  · rcases h1 with ⟨h1, h2⟩ | ⟨h1, h2⟩
    · have e : cntN f p a = (f, p) := if_pos (Or.inl (by rw [h2]))
      rw [e, h1]
      refine ⟨by simp, fun n q => ?_⟩
      have e2 : n = (p, f) := by simpa using q
      rw [e2]; exact LE2.rfl
    · by_cases c : a.1 = 0 ∨ p < a.2 ∨ (p = a.2 ∧ f < a.1)
      · have e : cntN f p a = (f, p) := if_pos c
        have c2 : p < a.2 ∨ (p = a.2 ∧ f < a.1) := by
          have w : 0 < a.1 := h0 _ h1
          rcases c with c | c
          · omega
          · exact c
        rw [e]
        refine ⟨by simp, fun n q => ?_⟩
        rcases List.mem_append.mp q with q | q
        · have w := h2 n q
          unfold LE2 at *
          simp only at *
          omega
        · rw [List.mem_singleton.mp q]; exact LE2.rfl
      · have e : cntN f p a = a := if_neg c
        rw [e]
        refine ⟨List.mem_append.mpr (Or.inl h1), fun n q => ?_⟩
        rcases List.mem_append.mp q with q | q
        · exact h2 n q
        · rw [List.mem_singleton.mp q]
          unfold LE2
          simp only
          omega
theorem LST.fold : ∀ (M : List NT) {N : List NT} {a : FP}, LST N a → POS M → LST (N ++ M) (cnts M a)
  | [], N, a, h, _ => by rw [List.append_nil]; exact h
  | n :: M, N, a, h, g => by
    have q := LST.fold M (LST.add (p := n.1) h (g n List.mem_cons_self)) (fun m w => g m (List.mem_cons_of_mem _ w))
    rw [List.append_assoc] at q
    exact q
def DMN (N M : List NT) : Prop := ∀ n ∈ N, ∃ m ∈ M, LE2 m n
theorem DMN.sub {N M : List NT} (h : ∀ n ∈ N, n ∈ M) : DMN N M := fun n q => ⟨n, h n q, LE2.rfl⟩
theorem DMN.mono {N M K : List NT} (h : DMN N M) (g : ∀ m ∈ M, m ∈ K) : DMN N K := fun n q => by
  obtain ⟨m, a, b⟩ := h n q
  exact ⟨m, g m a, b⟩
theorem DMN.trans {N M K : List NT} (h : DMN N M) (g : DMN M K) : DMN N K := fun n q => by
  obtain ⟨m, a, b⟩ := h n q
  obtain ⟨k, c, d⟩ := g m a
  exact ⟨k, c, d.trans b⟩
theorem DMN.app {N M K : List NT} (h : DMN N K) (g : DMN M K) : DMN (N ++ M) K := fun n q => (List.mem_append.mp q).elim (h n) (g n)
theorem DMN.nil {K : List NT} : DMN [] K := fun _ q => absurd q (by simp)
theorem LST.eq {N M : List NT} {a b : FP} (h : LST N a) (g : LST M b) (d1 : DMN N M) (d2 : DMN M N) : a = b := by
  obtain ⟨-, h⟩ := h
  obtain ⟨-, g⟩ := g
  rcases h with ⟨h1, h2⟩ | ⟨h1, h2⟩
  · rcases g with ⟨g1, g2⟩ | ⟨g1, g2⟩
    · rw [h2, g2]
    · obtain ⟨m, q, -⟩ := d2 _ g1
      rw [h1] at q; exact absurd q (by simp)
  · rcases g with ⟨g1, g2⟩ | ⟨g1, g2⟩
    · obtain ⟨m, q, -⟩ := d1 _ h1
      rw [g1] at q; exact absurd q (by simp)
    · obtain ⟨m, q, l⟩ := d1 _ h1
      obtain ⟨m2, q2, l2⟩ := d2 _ g1
      have x := (g2 m q).trans l
      have y := (h2 m2 q2).trans l2
      unfold LE2 at x y
      simp only at x y
      exact Prod.ext (by omega) (by omega)
abbrev RS : Type := Int × FP × Int × Int × Int × (Int → Int64) × (Int → Int) × (Int → Int) × (Int → Int64)
abbrev RS.ph (r : RS) : Int := r.1
abbrev RS.fp (r : RS) : FP := r.2.1
abbrev RS.rt (r : RS) : Int := r.2.2.1
abbrev RS.ln (r : RS) : Int := r.2.2.2.1
abbrev RS.tn (r : RS) : Int := r.2.2.2.2.1
abbrev RS.tw (r : RS) : Int → Int64 := r.2.2.2.2.2.1
abbrev RS.tm (r : RS) : Int → Int := r.2.2.2.2.2.2.1
abbrev RS.nn (r : RS) : Int → Int := r.2.2.2.2.2.2.2.1
abbrev RS.nw (r : RS) : Int → Int64 := r.2.2.2.2.2.2.2.2
abbrev RS.mk (ph : Int) (fp : FP) (rt : Int) (ln : Int) (tn : Int) (tw : Int → Int64) (tm : Int → Int) (nn : Int → Int) (nw : Int → Int64) : RS := (ph, fp, rt, ln, tn, tw, tm, nn, nw)
def absR (A : MS) : RS := (A.1 25, (A.1 26, A.1 27), A.1 30, A.1 31, A.1 43, A.2.2 44, A.2.1 45, A.2.1 35, A.2.2 38)
def up1 {α : Type} (f : Int → α) (i : Int) (v : α) : Int → α := fun q => if q = i then v else f q
theorem up1_eq {α : Type} {f : Int → α} {i : Int} {v : α} : up1 f i v i = v := if_pos rfl
theorem up1_ne {α : Type} {f : Int → α} {i q : Int} {v : α} (h : q ≠ i) : up1 f i v q = f q := if_neg h
def fndN (r : RS) (w : Int64) : Prop := ∃ n, 0 ≤ n ∧ n < r.nn r.rt ∧ r.nw (12 * r.rt + n) = w
def fndR (r : RS) (w : Int64) (q : Int) : Prop := 0 ≤ q ∧ q < r.tn ∧ r.tw q = w ∧ ∀ j, 0 ≤ j → j < q → r.tw j ≠ w
noncomputable def nNm (r : RS) (w : Int64) (p : Int) : List NT := ifP (r.rt < 6 ∧ ¬ fndN r w ∧ r.nn r.rt = 12) [(p, 5)] []
noncomputable def sNm (r : RS) (w : Int64) : RS := ifP (r.ph = 1 ∧ r.rt < 6 ∧ ¬ fndN r w ∧ r.nn r.rt ≠ 12) (RS.mk r.ph r.fp r.rt r.ln r.tn r.tw r.tm (up1 r.nn r.rt (r.nn r.rt + 1)) (up1 r.nw (12 * r.rt + r.nn r.rt) w)) r
noncomputable def nRn (r : RS) (w : Int64) (p : Int) : List NT := ifP (r.ph = 1) (ifP (r.rt = 6) [(p, 5)] [] ++ ifP (∃ q, fndR r w q) [(p, 2)] []) []
noncomputable def nPa (r : RS) (w : Int64) (p m : Int) : List NT := ifP (r.ph = 1) (ifP (m = 4) [(p, 5)] [] ++ (ifP (r.rt < 6 ∧ fndN r w) [(p, 2)] [] ++ nNm r w p)) []
noncomputable def nCl (r : RS) (w : Int64) (p m : Int) : List NT := ifP (r.ph = 2) (ifP (∃ q, fndR r w q) (ifP (∃ q, fndR r w q ∧ m ≠ r.tm q) [(p, 4)] []) [(p, 3)]) []
noncomputable def nRf (r : RS) (e : EW) : List NT :=
  if e.1 = 2 then nRn r e.2.2.2 e.2.1
  else if e.1 = 3 then nPa r e.2.2.2 e.2.1 e.2.2.1
  else if e.1 = 7 then []
  else if e.1 = 4 then nNm r e.2.2.2 e.2.1
  else if e.1 = 5 then ifP (r.ln + 1 = 41) [(e.2.1, 5)] []
  else if e.1 = 1 then nCl r e.2.2.2 e.2.1 e.2.2.1
  else if e.1 = 0 then ifP (r.ph = 2 ∧ 120 < e.2.2.1) [(e.2.1, 5)] []
  else []
noncomputable def sR (r : RS) (e : EW) : RS :=
  if e.1 = 2 then ifP (r.ph = 1) (RS.mk r.ph r.fp r.rt r.ln (r.tn + 1) (up1 r.tw r.tn e.2.2.2) r.tm r.nn r.nw) r
  else if e.1 = 3 then ifP (r.ph = 1) (sNm r e.2.2.2) r
  else if e.1 = 7 then ifP (r.ph = 1) (RS.mk r.ph r.fp r.rt r.ln r.tn r.tw (up1 r.tm (r.tn - 1) e.2.2.1) r.nn r.nw) r
  else if e.1 = 4 then sNm r e.2.2.2
  else if e.1 = 5 then (RS.mk r.ph r.fp r.rt (r.ln + 1) r.tn r.tw r.tm r.nn r.nw)
  else if e.1 = 1 then r
  else if e.1 = 0 then (RS.mk r.ph r.fp (r.rt + 1) r.ln r.tn r.tw r.tm r.nn r.nw)
  else r
noncomputable def uR (r : RS) (e : EW) : RS := (RS.mk (sR r e).ph (cnts (nRf r e) r.fp) (sR r e).rt (sR r e).ln (sR r e).tn (sR r e).tw (sR r e).tm (sR r e).nn (sR r e).nw)
theorem abs_nt {f p : Int} {A : MS} (h : 0 < A.1 25) : absR (ntP f p A) = (RS.mk (absR A).ph (cntN f p (absR A).fp) (absR A).rt (absR A).ln (absR A).tn (absR A).tw (absR A).tm (absR A).nn (absR A).nw) := by
  by_cases c : A.1 26 = 0 ∨ p < A.1 27 ∨ (p = A.1 27 ∧ f < A.1 26)
  · have e : ntP f p A = sS 27 p (sS 26 f A) := if_pos ⟨h, c⟩
    have e2 : cntN f p (absR A).fp = (f, p) := if_pos c
    rw [e, e2]; rfl
  · have e : ntP f p A = A := if_neg (fun q => c q.2)
    have e2 : cntN f p (absR A).fp = (absR A).fp := if_neg c
    rw [e, e2]
theorem abs_nm {w : Int64} {p : Int} {A : MS} (h : 0 < A.1 25) : absR (nmP w p A) = (RS.mk (sNm (absR A) w).ph (cnts (nNm (absR A) w p) (absR A).fp) (sNm (absR A) w).rt (sNm (absR A) w).ln (sNm (absR A) w).tn (sNm (absR A) w).tw (sNm (absR A) w).tm (sNm (absR A) w).nn (sNm (absR A) w).nw) := by
  by_cases c1 : A.1 30 < 6
  · by_cases c2 : NFD A w
    · have e0 : nmP w p A = A := by unfold nmP; rw [ifP_t c1, ifP_t c2]
      have e1 : nNm (absR A) w p = [] := ifP_f (fun q => q.2.1 c2)
      have e2 : sNm (absR A) w = absR A := ifP_f (fun q => q.2.2.1 c2)
      rw [e0, e1, e2]; rfl
    · by_cases c3 : A.2.1 35 (A.1 30) = 12
      · have e0 : nmP w p A = ntP 5 p A := by unfold nmP; rw [ifP_t c1, ifP_f c2, ifP_t c3]
        have e1 : nNm (absR A) w p = [(p, 5)] := ifP_t ⟨c1, c2, c3⟩
        have e2 : sNm (absR A) w = absR A := ifP_f (fun q => q.2.2.2 c3)
        rw [e0, e1, e2, abs_nt h]; rfl
      · have e1 : nNm (absR A) w p = [] := ifP_f (fun q => c3 q.2.2)
        by_cases c4 : A.1 25 = 1
        · have e0 : nmP w p A = sA 35 (A.1 30) (A.2.1 35 (A.1 30) + 1) (sJ 38 (12 * A.1 30 + A.2.1 35 (A.1 30)) w A) := by unfold nmP; rw [ifP_t c1, ifP_f c2, ifP_f c3, ifP_t c4]
          have e2 : sNm (absR A) w = (RS.mk (absR A).ph (absR A).fp (absR A).rt (absR A).ln (absR A).tn (absR A).tw (absR A).tm (up1 (absR A).nn (absR A).rt ((absR A).nn (absR A).rt + 1)) (up1 (absR A).nw (12 * (absR A).rt + (absR A).nn (absR A).rt) w)) := ifP_t ⟨c4, c1, c2, c3⟩
          rw [e0, e1, e2]; rfl
        · have e0 : nmP w p A = A := by unfold nmP; rw [ifP_t c1, ifP_f c2, ifP_f c3, ifP_f c4]
          have e2 : sNm (absR A) w = absR A := ifP_f (fun q => c4 q.1)
          rw [e0, e1, e2]; rfl
  · have e0 : nmP w p A = A := by unfold nmP; rw [ifP_f c1]
    have e1 : nNm (absR A) w p = [] := ifP_f (fun q => c1 q.1)
    have e2 : sNm (absR A) w = absR A := ifP_f (fun q => c1 q.2.1)
    rw [e0, e1, e2]; rfl
theorem cnts_app (M N : List NT) (a : FP) : cnts (M ++ N) a = cnts N (cnts M a) := List.foldl_append
theorem abs_if {c : Prop} {f p : Int} {A : MS} (h : 0 < A.1 25) : absR (ifP c (ntP f p A) A) = (RS.mk (absR A).ph (cnts (ifP c [(p, f)] []) (absR A).fp) (absR A).rt (absR A).ln (absR A).tn (absR A).tw (absR A).tm (absR A).nn (absR A).nw) := by
  by_cases q : c
  · rw [ifP_t q, ifP_t q, abs_nt h]; rfl
  · rw [ifP_f q, ifP_f q]; rfl
theorem ifn_25 {c : Prop} {f p : Int} {A : MS} : (ifP c (ntP f p A) A).1 25 = A.1 25 := by
  by_cases q : c
  · rw [ifP_t q, ntP_25]
  · rw [ifP_f q]
theorem abs_rn {w : Int64} {p : Int} {A : MS} (h : 0 < A.1 25) : absR (rnP w p A) = (RS.mk (ifP ((absR A).ph = 1) (RS.mk (absR A).ph (absR A).fp (absR A).rt (absR A).ln ((absR A).tn + 1) (up1 (absR A).tw (absR A).tn w) (absR A).tm (absR A).nn (absR A).nw) (absR A)).ph (cnts (nRn (absR A) w p) (absR A).fp) (ifP ((absR A).ph = 1) (RS.mk (absR A).ph (absR A).fp (absR A).rt (absR A).ln ((absR A).tn + 1) (up1 (absR A).tw (absR A).tn w) (absR A).tm (absR A).nn (absR A).nw) (absR A)).rt (ifP ((absR A).ph = 1) (RS.mk (absR A).ph (absR A).fp (absR A).rt (absR A).ln ((absR A).tn + 1) (up1 (absR A).tw (absR A).tn w) (absR A).tm (absR A).nn (absR A).nw) (absR A)).ln (ifP ((absR A).ph = 1) (RS.mk (absR A).ph (absR A).fp (absR A).rt (absR A).ln ((absR A).tn + 1) (up1 (absR A).tw (absR A).tn w) (absR A).tm (absR A).nn (absR A).nw) (absR A)).tn (ifP ((absR A).ph = 1) (RS.mk (absR A).ph (absR A).fp (absR A).rt (absR A).ln ((absR A).tn + 1) (up1 (absR A).tw (absR A).tn w) (absR A).tm (absR A).nn (absR A).nw) (absR A)).tw (ifP ((absR A).ph = 1) (RS.mk (absR A).ph (absR A).fp (absR A).rt (absR A).ln ((absR A).tn + 1) (up1 (absR A).tw (absR A).tn w) (absR A).tm (absR A).nn (absR A).nw) (absR A)).tm (ifP ((absR A).ph = 1) (RS.mk (absR A).ph (absR A).fp (absR A).rt (absR A).ln ((absR A).tn + 1) (up1 (absR A).tw (absR A).tn w) (absR A).tm (absR A).nn (absR A).nw) (absR A)).nn (ifP ((absR A).ph = 1) (RS.mk (absR A).ph (absR A).fp (absR A).rt (absR A).ln ((absR A).tn + 1) (up1 (absR A).tw (absR A).tn w) (absR A).tm (absR A).nn (absR A).nw) (absR A)).nw) := by
  by_cases c : A.1 25 = 1
  · have e0 : rnP w p A = sS 43 (A.1 43 + 1) (sJ 44 (A.1 43) w (ifP (∃ q, RFD A w q) (ntP 2 p (ifP (A.1 30 = 6) (ntP 5 p A) A)) (ifP (A.1 30 = 6) (ntP 5 p A) A))) := by unfold rnP; rw [ifP_t c]
    have e1 : nRn (absR A) w p = ifP ((absR A).rt = 6) [(p, 5)] [] ++ ifP (∃ q, fndR (absR A) w q) [(p, 2)] [] := ifP_t c
    have e2 : (ifP ((absR A).ph = 1) (RS.mk (absR A).ph (absR A).fp (absR A).rt (absR A).ln ((absR A).tn + 1) (up1 (absR A).tw (absR A).tn w) (absR A).tm (absR A).nn (absR A).nw) (absR A)) = (RS.mk (absR A).ph (absR A).fp (absR A).rt (absR A).ln ((absR A).tn + 1) (up1 (absR A).tw (absR A).tn w) (absR A).tm (absR A).nn (absR A).nw) := ifP_t c
    have e3 := abs_if (c := ∃ q, RFD A w q) (f := 2) (p := p) (A := ifP (A.1 30 = 6) (ntP 5 p A) A) (by rw [ifn_25]; exact h)
    rw [abs_if (c := A.1 30 = 6) (f := 5) (p := p) (A := A) h] at e3
    rw [e0, e1, e2, cnts_app]
    generalize (ifP (∃ q, RFD A w q) (ntP 2 p (ifP (A.1 30 = 6) (ntP 5 p A) A)) (ifP (A.1 30 = 6) (ntP 5 p A) A)) = X at e3 ⊢
    show ((RS.mk (absR X).ph (absR X).fp (absR X).rt (absR X).ln (A.1 43 + 1) (up1 (absR X).tw (A.1 43) w) (absR X).tm (absR X).nn (absR X).nw) : RS) = _
    rw [e3]
    rfl
  · have e0 : rnP w p A = A := by unfold rnP; rw [ifP_f c]
    have e1 : nRn (absR A) w p = [] := ifP_f c
    have e2 : (ifP ((absR A).ph = 1) (RS.mk (absR A).ph (absR A).fp (absR A).rt (absR A).ln ((absR A).tn + 1) (up1 (absR A).tw (absR A).tn w) (absR A).tm (absR A).nn (absR A).nw) (absR A)) = absR A := ifP_f c
    rw [e0, e1, e2]; rfl
theorem abs_pa {w : Int64} {p m : Int} {A : MS} (h : 0 < A.1 25) : absR (paP w p m A) = (RS.mk (ifP ((absR A).ph = 1) (sNm (absR A) w) (absR A)).ph (cnts (nPa (absR A) w p m) (absR A).fp) (ifP ((absR A).ph = 1) (sNm (absR A) w) (absR A)).rt (ifP ((absR A).ph = 1) (sNm (absR A) w) (absR A)).ln (ifP ((absR A).ph = 1) (sNm (absR A) w) (absR A)).tn (ifP ((absR A).ph = 1) (sNm (absR A) w) (absR A)).tw (ifP ((absR A).ph = 1) (sNm (absR A) w) (absR A)).tm (ifP ((absR A).ph = 1) (sNm (absR A) w) (absR A)).nn (ifP ((absR A).ph = 1) (sNm (absR A) w) (absR A)).nw) := by
  by_cases c : A.1 25 = 1
  · have e0 : paP w p m A = nmP w p (ifP (A.1 30 < 6 ∧ NFD A w) (ntP 2 p (ifP (m = 4) (ntP 5 p A) A)) (ifP (m = 4) (ntP 5 p A) A)) := by unfold paP; rw [ifP_t c]
    have e1 : nPa (absR A) w p m = ifP (m = 4) [(p, 5)] [] ++ (ifP ((absR A).rt < 6 ∧ fndN (absR A) w) [(p, 2)] [] ++ nNm (absR A) w p) := ifP_t c
    have e2 : (ifP ((absR A).ph = 1) (sNm (absR A) w) (absR A)) = sNm (absR A) w := ifP_t c
    have e3 := abs_if (c := A.1 30 < 6 ∧ NFD A w) (f := 2) (p := p) (A := ifP (m = 4) (ntP 5 p A) A) (by rw [ifn_25]; exact h)
    rw [abs_if (c := m = 4) (f := 5) (p := p) (A := A) h] at e3
    have e4 : 0 < (ifP (A.1 30 < 6 ∧ NFD A w) (ntP 2 p (ifP (m = 4) (ntP 5 p A) A)) (ifP (m = 4) (ntP 5 p A) A)).1 25 := by rw [ifn_25, ifn_25]; exact h
    rw [e0, e1, e2, cnts_app, cnts_app, abs_nm e4]
    generalize (ifP (A.1 30 < 6 ∧ NFD A w) (ntP 2 p (ifP (m = 4) (ntP 5 p A) A)) (ifP (m = 4) (ntP 5 p A) A)) = X at e3 ⊢
    rw [e3]
    have f0 : ∀ (a b : FP) (r : RS), ((RS.mk (sNm (RS.mk r.ph (a) r.rt r.ln r.tn r.tw r.tm r.nn r.nw) w).ph (b) (sNm (RS.mk r.ph (a) r.rt r.ln r.tn r.tw r.tm r.nn r.nw) w).rt (sNm (RS.mk r.ph (a) r.rt r.ln r.tn r.tw r.tm r.nn r.nw) w).ln (sNm (RS.mk r.ph (a) r.rt r.ln r.tn r.tw r.tm r.nn r.nw) w).tn (sNm (RS.mk r.ph (a) r.rt r.ln r.tn r.tw r.tm r.nn r.nw) w).tw (sNm (RS.mk r.ph (a) r.rt r.ln r.tn r.tw r.tm r.nn r.nw) w).tm (sNm (RS.mk r.ph (a) r.rt r.ln r.tn r.tw r.tm r.nn r.nw) w).nn (sNm (RS.mk r.ph (a) r.rt r.ln r.tn r.tw r.tm r.nn r.nw) w).nw) : RS) = (RS.mk (sNm r w).ph (b) (sNm r w).rt (sNm r w).ln (sNm r w).tn (sNm r w).tw (sNm r w).tm (sNm r w).nn (sNm r w).nw) := fun a b r => by
      unfold sNm
      by_cases q : r.ph = 1 ∧ r.rt < 6 ∧ ¬ fndN r w ∧ r.nn r.rt ≠ 12
      · rw [ifP_t (show ((RS.mk r.ph (a) r.rt r.ln r.tn r.tw r.tm r.nn r.nw) : RS).ph = 1 ∧ ((RS.mk r.ph (a) r.rt r.ln r.tn r.tw r.tm r.nn r.nw) : RS).rt < 6 ∧ ¬ fndN ((RS.mk r.ph (a) r.rt r.ln r.tn r.tw r.tm r.nn r.nw) : RS) w ∧ ((RS.mk r.ph (a) r.rt r.ln r.tn r.tw r.tm r.nn r.nw) : RS).nn ((RS.mk r.ph (a) r.rt r.ln r.tn r.tw r.tm r.nn r.nw) : RS).rt ≠ 12 from q), ifP_t q]
      · rw [ifP_f (show ¬ (((RS.mk r.ph (a) r.rt r.ln r.tn r.tw r.tm r.nn r.nw) : RS).ph = 1 ∧ ((RS.mk r.ph (a) r.rt r.ln r.tn r.tw r.tm r.nn r.nw) : RS).rt < 6 ∧ ¬ fndN ((RS.mk r.ph (a) r.rt r.ln r.tn r.tw r.tm r.nn r.nw) : RS) w ∧ ((RS.mk r.ph (a) r.rt r.ln r.tn r.tw r.tm r.nn r.nw) : RS).nn ((RS.mk r.ph (a) r.rt r.ln r.tn r.tw r.tm r.nn r.nw) : RS).rt ≠ 12) from q), ifP_f q]
    exact f0 _ _ (absR A)
  · have e0 : paP w p m A = A := by unfold paP; rw [ifP_f c]
    have e1 : nPa (absR A) w p m = [] := ifP_f c
    have e2 : (ifP ((absR A).ph = 1) (sNm (absR A) w) (absR A)) = absR A := ifP_f c
    rw [e0, e1, e2]; rfl
theorem abs_pe {m : Int} {A : MS} : absR (peP m A) = ifP ((absR A).ph = 1) (RS.mk (absR A).ph (absR A).fp (absR A).rt (absR A).ln (absR A).tn (absR A).tw (up1 (absR A).tm ((absR A).tn - 1) m) (absR A).nn (absR A).nw) (absR A) := by
  by_cases c : A.1 25 = 1
  · rw [ifP_t (show (absR A).ph = 1 from c)]
    unfold peP
    rw [ifP_t c]
    by_cases q : A.1 30 < 6
    · rw [ifP_t q]; rfl
    · rw [ifP_f q]; rfl
  · rw [ifP_f (show ¬ (absR A).ph = 1 from c)]
    unfold peP
    rw [ifP_f c]
theorem abs_ln {p : Int} {A : MS} (h : 0 < A.1 25) : absR (lnP p A) = (RS.mk (absR A).ph (cnts (ifP ((absR A).ln + 1 = 41) [(p, 5)] []) (absR A).fp) (absR A).rt ((absR A).ln + 1) (absR A).tn (absR A).tw (absR A).tm (absR A).nn (absR A).nw) := by
  by_cases c : A.1 31 + 1 = 41
  · have e0 : lnP p A = ntP 5 p (sS 31 (A.1 31 + 1) A) := if_pos c
    rw [e0, ifP_t (show (absR A).ln + 1 = 41 from c), abs_nt (show 0 < (sS 31 (A.1 31 + 1) A).1 25 from h)]; rfl
  · have e0 : lnP p A = sS 31 (A.1 31 + 1) A := if_neg c
    rw [e0, ifP_f (show ¬ (absR A).ln + 1 = 41 from c)]; rfl
theorem abs_cl {w : Int64} {p m : Int} {A : MS} (h : 0 < A.1 25) : absR (clP w p m A) = (RS.mk (absR A).ph (cnts (nCl (absR A) w p m) (absR A).fp) (absR A).rt (absR A).ln (absR A).tn (absR A).tw (absR A).tm (absR A).nn (absR A).nw) := by
  unfold clP nCl
  by_cases c : A.1 25 = 2
  · rw [ifP_t c, ifP_t (show (absR A).ph = 2 from c)]
    by_cases c1 : ∃ q, RFD A w q
    · rw [ifP_t c1, ifP_t (show ∃ q, fndR (absR A) w q from c1)]
      exact abs_if h
    · rw [ifP_f c1, ifP_f (show ¬ ∃ q, fndR (absR A) w q from c1), abs_nt h]; rfl
  · rw [ifP_f c, ifP_f (show ¬ (absR A).ph = 2 from c)]; rfl
theorem abs_re {p m : Int} {A : MS} (h : 0 < A.1 25) : absR (reP p m A) = (RS.mk (absR A).ph (cnts (ifP ((absR A).ph = 2 ∧ 120 < m) [(p, 5)] []) (absR A).fp) ((absR A).rt + 1) (absR A).ln (absR A).tn (absR A).tw (absR A).tm (absR A).nn (absR A).nw) := by
  by_cases c : A.1 25 = 2 ∧ 120 < m
  · have e0 : reP p m A = sS 30 (A.1 30 + 1) (ntP 5 p A) := if_pos c
    rw [e0, ifP_t (show (absR A).ph = 2 ∧ 120 < m from c)]
    show ((RS.mk (absR (ntP 5 p A)).ph (absR (ntP 5 p A)).fp (A.1 30 + 1) (absR (ntP 5 p A)).ln (absR (ntP 5 p A)).tn (absR (ntP 5 p A)).tw (absR (ntP 5 p A)).tm (absR (ntP 5 p A)).nn (absR (ntP 5 p A)).nw) : RS) = _
    rw [abs_nt h]; rfl
  · have e0 : reP p m A = sS 30 (A.1 30 + 1) A := if_neg c
    rw [e0, ifP_f (show ¬ ((absR A).ph = 2 ∧ 120 < m) from c)]; rfl
theorem abs_upR {A : MS} (e : EW) (h : 0 < A.1 25) : absR (upR A e) = uR (absR A) e := by
  unfold upR uR nRf sR
  by_cases k2 : e.1 = 2
  · simp only [if_pos k2]; exact abs_rn h
  by_cases k3 : e.1 = 3
  · simp only [if_neg k2, if_pos k3]; exact abs_pa h
  by_cases k7 : e.1 = 7
  · simp only [if_neg k2, if_neg k3, if_pos k7]; rw [abs_pe]
    by_cases c : (absR A).ph = 1
    · rw [ifP_t c]; rfl
    · rw [ifP_f c]; rfl
  by_cases k4 : e.1 = 4
  · simp only [if_neg k2, if_neg k3, if_neg k7, if_pos k4]; exact abs_nm h
  by_cases k5 : e.1 = 5
  · simp only [if_neg k2, if_neg k3, if_neg k7, if_neg k4, if_pos k5]; exact abs_ln h
  by_cases k1 : e.1 = 1
  · simp only [if_neg k2, if_neg k3, if_neg k7, if_neg k4, if_neg k5, if_pos k1]; exact abs_cl h
  by_cases k0 : e.1 = 0
  · simp only [if_neg k2, if_neg k3, if_neg k7, if_neg k4, if_neg k5, if_neg k1, if_pos k0]; exact abs_re h
  · simp only [if_neg k2, if_neg k3, if_neg k7, if_neg k4, if_neg k5, if_neg k1, if_neg k0]; rfl
theorem abs_fold (es : List EW) : ∀ {A : MS}, 0 < A.1 25 → absR (es.foldl upR A) = es.foldl uR (absR A) := by
  induction es with
  | nil => intro A _; rfl
  | cons e es ih =>
    intro A h
    show absR (es.foldl upR (upR A e)) = es.foldl uR (uR (absR A) e)
    rw [ih (by rw [upR_25]; exact h), abs_upR e h]
end
section
abbrev CS : Type := FP × Int × (Int → Int64) × (Int → Int) × Int × (Int → Int64) × (Int → Int) × (Int → Int) × Int × (Int → Int64) × Int
abbrev CS.fp (r : CS) : FP := r.1
abbrev CS.rn (r : CS) : Int := r.2.1
abbrev CS.rk (r : CS) : Int → Int64 := r.2.2.1
abbrev CS.rp (r : CS) : Int → Int := r.2.2.2.1
abbrev CS.cn (r : CS) : Int := r.2.2.2.2.1
abbrev CS.ck (r : CS) : Int → Int64 := r.2.2.2.2.2.1
abbrev CS.cp (r : CS) : Int → Int := r.2.2.2.2.2.2.1
abbrev CS.cc (r : CS) : Int → Int := r.2.2.2.2.2.2.2.1
abbrev CS.nn (r : CS) : Int := r.2.2.2.2.2.2.2.2.1
abbrev CS.nk (r : CS) : Int → Int64 := r.2.2.2.2.2.2.2.2.2.1
abbrev CS.m (r : CS) : Int := r.2.2.2.2.2.2.2.2.2.2
abbrev CS.mk (fp : FP) (rn : Int) (rk : Int → Int64) (rp : Int → Int) (cn : Int) (ck : Int → Int64) (cp : Int → Int) (cc : Int → Int) (nn : Int) (nk : Int → Int64) (m : Int) : CS := (fp, rn, rk, rp, cn, ck, cp, cc, nn, nk, m)
def fndC (c : CS) (w : Int64) : Prop := ∃ n, 0 ≤ n ∧ n < c.nn ∧ c.nk n = w
def fndQ (c : CS) (w : Int64) : Prop := ∃ q, 0 ≤ q ∧ q < c.rn ∧ c.rk q = w
noncomputable def nCn (c : CS) (w : Int64) (p : Int) : List NT := ifP (¬ fndC c w ∧ 12 ≤ c.nn) [(p, 5)] []
noncomputable def sCn (c : CS) (w : Int64) : CS := ifP (¬ fndC c w ∧ ¬ 12 ≤ c.nn) (CS.mk c.fp c.rn c.rk c.rp c.cn c.ck c.cp c.cc (c.nn + 1) (up1 c.nk c.nn w) c.m) c
noncomputable def nC (c : CS) (e : EW) : List NT :=
  if e.1 = 2 then ifP (fndQ c e.2.2.2) [(e.2.1, 2)] [] ++ ifP (6 ≤ c.rn) [(e.2.1, 5)] []
  else if e.1 = 3 then ifP (fndC c e.2.2.2) [(e.2.1, 2)] [] ++ (ifP (4 ≤ e.2.2.1) [(e.2.1, 5)] [] ++ nCn c e.2.2.2 e.2.1)
  else if e.1 = 7 then []
  else if e.1 = 4 then nCn c e.2.2.2 e.2.1
  else if e.1 = 5 then ifP (40 < c.m + 1) [(e.2.1, 5)] []
  else if e.1 = 1 then []
  else if e.1 = 0 then ifP (120 < e.2.2.1) [(e.2.1, 5)] []
  else []
noncomputable def sC (c : CS) (e : EW) : CS :=
  if e.1 = 2 then (CS.mk c.fp (c.rn + 1) (up1 c.rk c.rn e.2.2.2) (up1 c.rp c.rn 0) c.cn c.ck c.cp c.cc (0) c.nk c.m)
  else if e.1 = 3 then (CS.mk (sCn c e.2.2.2).fp (sCn c e.2.2.2).rn (sCn c e.2.2.2).rk (up1 c.rp (c.rn - 1) (e.2.2.1 + 1)) (sCn c e.2.2.2).cn (sCn c e.2.2.2).ck (sCn c e.2.2.2).cp (sCn c e.2.2.2).cc (sCn c e.2.2.2).nn (sCn c e.2.2.2).nk (sCn c e.2.2.2).m)
  else if e.1 = 7 then c
  else if e.1 = 4 then sCn c e.2.2.2
  else if e.1 = 5 then (CS.mk c.fp c.rn c.rk c.rp c.cn c.ck c.cp c.cc c.nn c.nk (c.m + 1))
  else if e.1 = 1 then (CS.mk c.fp c.rn c.rk c.rp (c.cn + 1) (up1 c.ck c.cn e.2.2.2) (up1 c.cp c.cn e.2.1) (up1 c.cc c.cn e.2.2.1) c.nn c.nk c.m)
  else c
noncomputable def uC (c : CS) (e : EW) : CS := (CS.mk (cnts (nC c e) c.fp) (sC c e).rn (sC c e).rk (sC c e).rp (sC c e).cn (sC c e).ck (sC c e).cp (sC c e).cc (sC c e).nn (sC c e).nk (sC c e).m)
def SHP : List EW → Nat → Int → Int → Prop
  | [], md, _, _ => md = 0
  | e :: es, md, pc, lo =>
    (md = 0 ∧ e.1 = 2 ∧ lo ≤ e.2.1 ∧ SHP es 1 0 (e.2.1 + 1)) ∨
    (md = 1 ∧ e.1 = 3 ∧ lo ≤ e.2.1 ∧ e.2.2.1 = pc ∧ SHP es 1 (pc + 1) e.2.1) ∨
    (md = 1 ∧ e.1 = 7 ∧ e.2.2.1 = pc ∧ SHP es 2 0 lo) ∨
    (md = 2 ∧ (e.1 = 4 ∨ e.1 = 5) ∧ lo ≤ e.2.1 ∧ SHP es 2 0 e.2.1) ∨
    (md = 2 ∧ e.1 = 1 ∧ SHP es 2 0 lo) ∨
    (md = 2 ∧ e.1 = 0 ∧ SHP es 0 0 lo)
theorem fst_ex {f : Int → Int64} {w : Int64} {n : Int} (h : ∃ q, 0 ≤ q ∧ q < n ∧ f q = w) : ∃ q, 0 ≤ q ∧ q < n ∧ f q = w ∧ ∀ j, 0 ≤ j → j < q → f j ≠ w := by
  obtain ⟨q, h0, h1, h2⟩ := h
  have key : ∀ k : Nat, ∀ q : Int, q.toNat = k → 0 ≤ q → q < n → f q = w → ∃ q, 0 ≤ q ∧ q < n ∧ f q = w ∧ ∀ j, 0 ≤ j → j < q → f j ≠ w := by
    intro k
    induction k using Nat.strongRecOn with
    | _ k ih =>
      intro q e a b c
      by_cases z : ∃ j, 0 ≤ j ∧ j < q ∧ f j = w
      · obtain ⟨j, j0, j1, j2⟩ := z
        exact ih j.toNat (by omega) j rfl j0 (by omega) j2
      · exact ⟨q, a, b, c, fun j x y v => z ⟨j, x, y, v⟩⟩
  exact key _ q rfl h0 h1 h2
theorem fndR_ex {r : RS} {w : Int64} : (∃ q, fndR r w q) ↔ ∃ q, 0 ≤ q ∧ q < r.tn ∧ r.tw q = w := by
  constructor
  · rintro ⟨q, a, b, c, -⟩; exact ⟨q, a, b, c⟩
  · intro h; exact fst_ex h
theorem pos_if {c : Prop} {p f : Int} (h : 0 < f) : POS (ifP c [(p, f)] []) := fun n q => by
  by_cases z : c
  · rw [ifP_t z] at q; rw [List.mem_singleton.mp q]; exact h
  · rw [ifP_f z] at q; exact absurd q (by simp)
theorem POS.app {N M : List NT} (h : POS N) (g : POS M) : POS (N ++ M) := fun n q => (List.mem_append.mp q).elim (h n) (g n)
theorem POS.nil : POS [] := fun _ q => absurd q (by simp)
theorem pos_C (c : CS) (e : EW) : POS (nC c e) := by
  unfold nC nCn
  by_cases k2 : e.1 = 2
  · rw [if_pos k2]; exact (pos_if (by omega)).app (pos_if (by omega))
  rw [if_neg k2]
  by_cases k3 : e.1 = 3
  · rw [if_pos k3]; exact (pos_if (by omega)).app ((pos_if (by omega)).app (pos_if (by omega)))
  rw [if_neg k3]
  by_cases k7 : e.1 = 7
  · rw [if_pos k7]; exact POS.nil
  rw [if_neg k7]
  by_cases k4 : e.1 = 4
  · rw [if_pos k4]; exact pos_if (by omega)
  rw [if_neg k4]
  by_cases k5 : e.1 = 5
  · rw [if_pos k5]; exact pos_if (by omega)
  rw [if_neg k5]
  by_cases k1 : e.1 = 1
  · rw [if_pos k1]; exact POS.nil
  rw [if_neg k1]
  by_cases k0 : e.1 = 0
  · rw [if_pos k0]; exact pos_if (by omega)
  rw [if_neg k0]; exact POS.nil
theorem pos_ifL {c : Prop} {M N : List NT} (h : POS M) (g : POS N) : POS (ifP c M N) := by
  by_cases z : c
  · rw [ifP_t z]; exact h
  · rw [ifP_f z]; exact g
theorem pos_R (r : RS) (e : EW) : POS (nRf r e) := by
  unfold nRf nRn nPa nCl nNm
  by_cases k2 : e.1 = 2
  · rw [if_pos k2]; exact pos_ifL ((pos_if (by omega)).app (pos_if (by omega))) POS.nil
  rw [if_neg k2]
  by_cases k3 : e.1 = 3
  · rw [if_pos k3]; exact pos_ifL ((pos_if (by omega)).app ((pos_if (by omega)).app (pos_if (by omega)))) POS.nil
  rw [if_neg k3]
  by_cases k7 : e.1 = 7
  · rw [if_pos k7]; exact POS.nil
  rw [if_neg k7]
  by_cases k4 : e.1 = 4
  · rw [if_pos k4]; exact pos_if (by omega)
  rw [if_neg k4]
  by_cases k5 : e.1 = 5
  · rw [if_pos k5]; exact pos_if (by omega)
  rw [if_neg k5]
  by_cases k1 : e.1 = 1
  · rw [if_pos k1]; exact pos_ifL (pos_ifL (pos_if (by omega)) (fun n q => by rw [List.mem_singleton.mp q]; show (0 : Int) < 3; omega)) POS.nil
  rw [if_neg k1]
  by_cases k0 : e.1 = 0
  · rw [if_pos k0]; exact pos_if (by omega)
  rw [if_neg k0]; exact POS.nil
theorem mem_if {c : Prop} {n m : NT} (h : n ∈ ifP c [m] []) : c ∧ n = m := by
  by_cases z : c
  · rw [ifP_t z] at h; exact ⟨z, List.mem_singleton.mp h⟩
  · rw [ifP_f z] at h; exact absurd h (by simp)
theorem mem_ift {c : Prop} {m : NT} (h : c) : m ∈ ifP c [m] [] := by rw [ifP_t h]; simp
noncomputable def zE (e : EW) : List NT := ifP (e.1 = 0 ∧ 120 < e.2.2.1) [(e.2.1, 5)] []
def K1 (r : RS) (c : CS) (N1 NC Z : List NT) (md : Nat) (pc lo : Int) : Prop :=
  (r.ph = 1) ∧
  (LST N1 r.fp) ∧
  (LST NC c.fp) ∧
  (DMN N1 NC) ∧
  (DMN NC (N1 ++ Z)) ∧
  (∀ n ∈ Z, n ∈ NC) ∧
  (0 ≤ r.rt) ∧
  (r.tn = c.rn) ∧
  (md = 0 ∧ c.rn = r.rt ∨ md ≠ 0 ∧ c.rn = r.rt + 1) ∧
  (∀ j, 0 ≤ j → j < c.rn → r.tw j = c.rk j) ∧
  (∀ j, 0 ≤ j → (j < c.rn - 1 ∨ j < c.rn ∧ md ≠ 1) → r.tm j = c.rp j) ∧
  (md = 1 → c.rp (c.rn - 1) = pc) ∧
  (r.ln = c.m) ∧
  (md ≠ 0 → r.rt < 6 → r.nn r.rt = c.nn ∧ ∀ i, 0 ≤ i → i < c.nn → r.nw (12 * r.rt + i) = c.nk i) ∧
  (0 ≤ c.nn ∧ c.nn ≤ 12) ∧
  (∀ k, (r.rt < k ∨ r.rt = k ∧ md = 0) → k < 6 → r.nn k = 0) ∧
  (7 ≤ c.rn → ∃ p, (p, 5) ∈ N1 ∧ p < lo) ∧
  (41 ≤ c.m → ∃ p, (p, 5) ∈ N1 ∧ p ≤ lo) ∧
  (md = 1 → 5 ≤ pc → ∃ p, (p, 5) ∈ N1 ∧ p ≤ lo)
section K1S
variable {r : RS} {c : CS} {N1 NC Z : List NT} {md : Nat} {pc lo : Int}
theorem K1.ph (h : K1 r c N1 NC Z md pc lo) : r.ph = 1 := h.1
theorem K1.l1 (h : K1 r c N1 NC Z md pc lo) : LST N1 r.fp := h.2.1
theorem K1.l2 (h : K1 r c N1 NC Z md pc lo) : LST NC c.fp := h.2.2.1
theorem K1.d1 (h : K1 r c N1 NC Z md pc lo) : DMN N1 NC := h.2.2.2.1
theorem K1.d2 (h : K1 r c N1 NC Z md pc lo) : DMN NC (N1 ++ Z) := h.2.2.2.2.1
theorem K1.dz (h : K1 r c N1 NC Z md pc lo) : ∀ n ∈ Z, n ∈ NC := h.2.2.2.2.2.1
theorem K1.rt0 (h : K1 r c N1 NC Z md pc lo) : 0 ≤ r.rt := h.2.2.2.2.2.2.1
theorem K1.tn (h : K1 r c N1 NC Z md pc lo) : r.tn = c.rn := h.2.2.2.2.2.2.2.1
theorem K1.rt (h : K1 r c N1 NC Z md pc lo) : md = 0 ∧ c.rn = r.rt ∨ md ≠ 0 ∧ c.rn = r.rt + 1 := h.2.2.2.2.2.2.2.2.1
theorem K1.tw (h : K1 r c N1 NC Z md pc lo) : ∀ j, 0 ≤ j → j < c.rn → r.tw j = c.rk j := h.2.2.2.2.2.2.2.2.2.1
theorem K1.tm (h : K1 r c N1 NC Z md pc lo) : ∀ j, 0 ≤ j → (j < c.rn - 1 ∨ j < c.rn ∧ md ≠ 1) → r.tm j = c.rp j := h.2.2.2.2.2.2.2.2.2.2.1
theorem K1.pp (h : K1 r c N1 NC Z md pc lo) : md = 1 → c.rp (c.rn - 1) = pc := h.2.2.2.2.2.2.2.2.2.2.2.1
theorem K1.ln (h : K1 r c N1 NC Z md pc lo) : r.ln = c.m := h.2.2.2.2.2.2.2.2.2.2.2.2.1
theorem K1.nn (h : K1 r c N1 NC Z md pc lo) : md ≠ 0 → r.rt < 6 → r.nn r.rt = c.nn ∧ ∀ i, 0 ≤ i → i < c.nn → r.nw (12 * r.rt + i) = c.nk i := h.2.2.2.2.2.2.2.2.2.2.2.2.2.1
theorem K1.nb (h : K1 r c N1 NC Z md pc lo) : 0 ≤ c.nn ∧ c.nn ≤ 12 := h.2.2.2.2.2.2.2.2.2.2.2.2.2.2.1
theorem K1.nl (h : K1 r c N1 NC Z md pc lo) : ∀ k, (r.rt < k ∨ r.rt = k ∧ md = 0) → k < 6 → r.nn k = 0 := h.2.2.2.2.2.2.2.2.2.2.2.2.2.2.2.1
theorem K1.k7 (h : K1 r c N1 NC Z md pc lo) : 7 ≤ c.rn → ∃ p, (p, 5) ∈ N1 ∧ p < lo := h.2.2.2.2.2.2.2.2.2.2.2.2.2.2.2.2.1
theorem K1.k41 (h : K1 r c N1 NC Z md pc lo) : 41 ≤ c.m → ∃ p, (p, 5) ∈ N1 ∧ p ≤ lo := h.2.2.2.2.2.2.2.2.2.2.2.2.2.2.2.2.2.1
theorem K1.k5 (h : K1 r c N1 NC Z md pc lo) : md = 1 → 5 ≤ pc → ∃ p, (p, 5) ∈ N1 ∧ p ≤ lo := h.2.2.2.2.2.2.2.2.2.2.2.2.2.2.2.2.2.2
end K1S
theorem sNm_q (r : RS) (w : Int64) : (sNm r w).ph = r.ph ∧ (sNm r w).rt = r.rt ∧ (sNm r w).ln = r.ln ∧ (sNm r w).tn = r.tn ∧ (sNm r w).tw = r.tw ∧ (sNm r w).tm = r.tm ∧ ∀ k, k ≠ r.rt → (sNm r w).nn k = r.nn k := by
  unfold sNm
  by_cases z : r.ph = 1 ∧ r.rt < 6 ∧ ¬ fndN r w ∧ r.nn r.rt ≠ 12
  · rw [ifP_t z]; exact ⟨rfl, rfl, rfl, rfl, rfl, rfl, fun k h => up1_ne h⟩
  · rw [ifP_f z]; exact ⟨rfl, rfl, rfl, rfl, rfl, rfl, fun _ _ => rfl⟩
theorem sCn_q (c : CS) (w : Int64) : (sCn c w).rn = c.rn ∧ (sCn c w).rk = c.rk ∧ (sCn c w).rp = c.rp ∧ (sCn c w).cn = c.cn ∧ (sCn c w).ck = c.ck ∧ (sCn c w).cp = c.cp ∧ (sCn c w).cc = c.cc ∧ (sCn c w).m = c.m := by
  unfold sCn
  by_cases z : ¬ fndC c w ∧ ¬ 12 ≤ c.nn
  · rw [ifP_t z]; exact ⟨rfl, rfl, rfl, rfl, rfl, rfl, rfl, rfl⟩
  · rw [ifP_f z]; exact ⟨rfl, rfl, rfl, rfl, rfl, rfl, rfl, rfl⟩
theorem sCn_b {c : CS} {w : Int64} (h : 0 ≤ c.nn ∧ c.nn ≤ 12) : 0 ≤ (sCn c w).nn ∧ (sCn c w).nn ≤ 12 := by
  unfold sCn
  by_cases z : ¬ fndC c w ∧ ¬ 12 ≤ c.nn
  · rw [ifP_t z]; show 0 ≤ c.nn + 1 ∧ c.nn + 1 ≤ 12; omega
  · rw [ifP_f z]; exact h
def NCP (r : RS) (c : CS) : Prop := r.nn r.rt = c.nn ∧ ∀ i, 0 ≤ i → i < c.nn → r.nw (12 * r.rt + i) = c.nk i
theorem NCP.iff {r : RS} {c : CS} {w : Int64} (h : NCP r c) : fndN r w ↔ fndC c w := by
  constructor
  · rintro ⟨n, a, b, e⟩; rw [h.1] at b; exact ⟨n, a, b, by rw [← h.2 n a b]; exact e⟩
  · rintro ⟨n, a, b, e⟩; exact ⟨n, a, by rw [h.1]; exact b, by rw [h.2 n a b]; exact e⟩
theorem NCP.nm {r : RS} {c : CS} {w : Int64} (h : NCP r c) (hp : r.ph = 1) (hr : r.rt < 6) (hb : c.nn ≤ 12) : NCP (sNm r w) (sCn c w) := by
  by_cases z : ¬ fndC c w ∧ ¬ 12 ≤ c.nn
  · have e1 : sCn c w = (CS.mk c.fp c.rn c.rk c.rp c.cn c.ck c.cp c.cc (c.nn + 1) (up1 c.nk c.nn w) c.m) := ifP_t z
    have e2 : sNm r w = (RS.mk r.ph r.fp r.rt r.ln r.tn r.tw r.tm (up1 r.nn r.rt (r.nn r.rt + 1)) (up1 r.nw (12 * r.rt + r.nn r.rt) w)) := ifP_t ⟨hp, hr, fun q => z.1 (h.iff.mp q), by rw [h.1]; omega⟩
    rw [e1, e2]
    refine ⟨?_, fun i a b => ?_⟩
    · show up1 r.nn r.rt (r.nn r.rt + 1) r.rt = c.nn + 1
      rw [up1_eq, h.1]
    · show up1 r.nw (12 * r.rt + r.nn r.rt) w (12 * r.rt + i) = up1 c.nk c.nn w i
      have b : i < c.nn + 1 := b
      by_cases q : i = c.nn
      · rw [q, h.1, up1_eq, up1_eq]
      · rw [up1_ne q, up1_ne (by rw [h.1]; omega)]
        exact h.2 i a (by omega)
  · have e1 : sCn c w = c := ifP_f z
    have e2 : sNm r w = r := ifP_f (fun q => z ⟨fun u => q.2.2.1 (h.iff.mpr u), by have := q.2.2.2; rw [h.1] at this; omega⟩)
    rw [e1, e2]; exact h
theorem NCP.nt {r : RS} {c : CS} {w : Int64} {p : Int} (h : NCP r c) (hr : r.rt < 6) (hb : c.nn ≤ 12) : nNm r w p = nCn c w p := by
  by_cases z : ¬ fndC c w ∧ 12 ≤ c.nn
  · have e1 : nCn c w p = [(p, 5)] := ifP_t z
    have e2 : nNm r w p = [(p, 5)] := ifP_t ⟨hr, fun q => z.1 (h.iff.mp q), by rw [h.1]; omega⟩
    rw [e1, e2]
  · have e1 : nCn c w p = [] := ifP_f z
    have e2 : nNm r w p = [] := ifP_f (fun q => z ⟨fun u => q.2.1 (h.iff.mpr u), by have := q.2.2; rw [h.1] at this; omega⟩)
    rw [e1, e2]
theorem nNm_no {r : RS} {w : Int64} {p : Int} (h : ¬ r.rt < 6) : nNm r w p = [] := ifP_f (fun q => h q.1)
theorem nCn_mem {c : CS} {w : Int64} {p : Int} {n : NT} (h : n ∈ nCn c w p) : n = (p, 5) := (mem_if h).2
section STEP
variable {r : RS} {c : CS} {N1 NC Z : List NT} {md : Nat} {pc lo : Int} {e : EW}
theorem K1.dA (h : K1 r c N1 NC Z md pc lo) (x : DMN (nRf r e) (NC ++ nC c e)) : DMN (N1 ++ nRf r e) (NC ++ nC c e) := (h.d1.mono (fun m q => List.mem_append.mpr (Or.inl q))).app x
theorem K1.dB (h : K1 r c N1 NC Z md pc lo) (y : DMN (nC c e) ((N1 ++ nRf r e) ++ (Z ++ zE e))) : DMN (NC ++ nC c e) ((N1 ++ nRf r e) ++ (Z ++ zE e)) := (h.d2.mono (fun m q => by
  rcases List.mem_append.mp q with q | q
  · exact List.mem_append.mpr (Or.inl (List.mem_append.mpr (Or.inl q)))
  · exact List.mem_append.mpr (Or.inr (List.mem_append.mpr (Or.inl q))))).app y
theorem K1.dZ (h : K1 r c N1 NC Z md pc lo) (g : ∀ n ∈ zE e, n ∈ nC c e) : ∀ n ∈ Z ++ zE e, n ∈ NC ++ nC c e := fun n q => by
  rcases List.mem_append.mp q with q | q
  · exact List.mem_append.mpr (Or.inl (h.dz n q))
  · exact List.mem_append.mpr (Or.inr (g n q))
theorem zE_no (h : e.1 ≠ 0) : ∀ n ∈ zE e, n ∈ nC c e := fun n q => absurd (mem_if q).1.1 h
theorem inNn {n : NT} {A B C : List NT} (h : n ∈ A) : n ∈ (A ++ B) ++ C := List.mem_append.mpr (Or.inl (List.mem_append.mpr (Or.inl h)))
theorem inRr {n : NT} {A B C : List NT} (h : n ∈ B) : n ∈ (A ++ B) ++ C := List.mem_append.mpr (Or.inl (List.mem_append.mpr (Or.inr h)))
theorem K1.k5N {N M : List NT} {p q : Int} (h : ∃ p, (p, 5) ∈ N ∧ p < q) (hq : q ≤ p) : ∃ p', ((p', 5) : NT) ∈ N ++ M ∧ p' < p := by
  obtain ⟨x, a, b⟩ := h
  exact ⟨x, List.mem_append.mpr (Or.inl a), by omega⟩
theorem K1.k5L {N M : List NT} {p q : Int} (h : ∃ p, (p, 5) ∈ N ∧ p ≤ q) (hq : q ≤ p) : ∃ p', ((p', 5) : NT) ∈ N ++ M ∧ p' ≤ p := by
  obtain ⟨x, a, b⟩ := h
  exact ⟨x, List.mem_append.mpr (Or.inl a), by omega⟩
theorem K1.s2 (h : K1 r c N1 NC Z 0 pc lo) (k : e.1 = 2) (hl : lo ≤ e.2.1) : K1 (uR r e) (uC c e) (N1 ++ nRf r e) (NC ++ nC c e) (Z ++ zE e) 1 0 (e.2.1 + 1) := by
  have kn : nRf r e = ifP (r.rt = 6) [(e.2.1, 5)] [] ++ ifP (∃ q, fndR r e.2.2.2 q) [(e.2.1, 2)] [] := by unfold nRf nRn; rw [if_pos k, ifP_t h.ph]
  have cn : nC c e = ifP (fndQ c e.2.2.2) [(e.2.1, 2)] [] ++ ifP (6 ≤ c.rn) [(e.2.1, 5)] [] := by unfold nC; rw [if_pos k]
  have sr : sR r e = (RS.mk r.ph r.fp r.rt r.ln (r.tn + 1) (up1 r.tw r.tn e.2.2.2) r.tm r.nn r.nw) := by unfold sR; rw [if_pos k, ifP_t h.ph]
  have sc : sC c e = (CS.mk c.fp (c.rn + 1) (up1 c.rk c.rn e.2.2.2) (up1 c.rp c.rn 0) c.cn c.ck c.cp c.cc (0) c.nk c.m) := by unfold sC; rw [if_pos k]
  have hrt : c.rn = r.rt := by rcases h.rt with q | q <;> omega
  have h0 := h.rt0
  have x7 : 7 ≤ c.rn + 1 → ∃ p, ((p, 5) : NT) ∈ N1 ++ nRf r e ∧ p < e.2.1 + 1 := fun q => by
    by_cases z : r.rt = 6
    · exact ⟨e.2.1, List.mem_append.mpr (Or.inr (by rw [kn]; exact List.mem_append.mpr (Or.inl (mem_ift z)))), by omega⟩
    · exact K1.k5N (h.k7 (by omega)) (by omega)
  refine ⟨?_, LST.fold _ h.l1 (pos_R r e), LST.fold _ h.l2 (pos_C c e), h.dA (fun n q => ?_), h.dB (fun n q => ?_), h.dZ (zE_no (by omega)), ?_, ?_, ?_, ?_, ?_, ?_, ?_, ?_, ?_, ?_, ?_, ?_, ?_⟩
  · show (sR r e).ph = 1; rw [sr]; exact h.ph
  · refine ⟨n, List.mem_append.mpr (Or.inr ?_), LE2.rfl⟩
    rw [kn] at q; rw [cn]
    rcases List.mem_append.mp q with q | q
    · obtain ⟨a, b⟩ := mem_if q
      rw [b]; exact List.mem_append.mpr (Or.inr (mem_ift (by omega)))
    · obtain ⟨⟨j, a0, a1, a2, -⟩, b⟩ := mem_if q
      rw [b]; refine List.mem_append.mpr (Or.inl (mem_ift ⟨j, a0, by rw [← h.tn]; exact a1, ?_⟩))
      rw [← h.tw j a0 (by rw [← h.tn]; exact a1)]; exact a2
  · rw [cn] at q
    rcases List.mem_append.mp q with q | q
    · obtain ⟨⟨j, a0, a1, a2⟩, b⟩ := mem_if q
      rw [b]
      refine ⟨_, inRr ?_, LE2.rfl⟩
      rw [kn]
      exact List.mem_append.mpr (Or.inr (mem_ift (fndR_ex.mpr ⟨j, a0, by rw [h.tn]; exact a1, by rw [h.tw j a0 a1]; exact a2⟩)))
    · obtain ⟨a, b⟩ := mem_if q
      rw [b]
      by_cases z : r.rt = 6
      · refine ⟨_, inRr ?_, LE2.rfl⟩
        rw [kn]
        exact List.mem_append.mpr (Or.inl (mem_ift z))
      · obtain ⟨x, y, u⟩ := h.k7 (by omega)
        exact ⟨_, inNn y, Or.inl (by show x < e.2.1; omega)⟩
  · show 0 ≤ (sR r e).rt; rw [sr]; exact h0
  · show (sR r e).tn = (sC c e).rn; rw [sr, sc]; show r.tn + 1 = c.rn + 1; rw [h.tn]
  · right; show (1 : Nat) ≠ 0 ∧ (sC c e).rn = (sR r e).rt + 1; rw [sr, sc]; exact ⟨by omega, by show c.rn + 1 = r.rt + 1; omega⟩
  · intro j a b
    show (sR r e).tw j = (sC c e).rk j
    have b : j < (sC c e).rn := b
    rw [sr, sc]; rw [sc] at b
    have b : j < c.rn + 1 := b
    show up1 r.tw r.tn e.2.2.2 j = up1 c.rk c.rn e.2.2.2 j
    rw [h.tn]
    by_cases z : j = c.rn
    · rw [z, up1_eq, up1_eq]
    · rw [up1_ne z, up1_ne z]; exact h.tw j a (by omega)
  · intro j a b
    show (sR r e).tm j = (sC c e).rp j
    have b : j < (sC c e).rn - 1 ∨ j < (sC c e).rn ∧ (1 : Nat) ≠ 1 := b
    rw [sr, sc]; rw [sc] at b
    have b : j < c.rn := b.elim (fun b => by have b : j < c.rn + 1 - 1 := b; omega) (fun b => absurd rfl b.2)
    show r.tm j = up1 c.rp c.rn 0 j
    rw [up1_ne (by omega)]; exact h.tm j a (Or.inr ⟨b, by omega⟩)
  · intro _
    show (sC c e).rp ((sC c e).rn - 1) = 0
    rw [sc]
    show up1 c.rp c.rn 0 (c.rn + 1 - 1) = 0
    rw [show c.rn + 1 - 1 = c.rn by omega, up1_eq]
  · show (sR r e).ln = (sC c e).m; rw [sr, sc]; exact h.ln
  · intro _ z
    show (sR r e).nn (sR r e).rt = (sC c e).nn ∧ _
    have z : (sR r e).rt < 6 := z
    rw [sr] at z ⊢; rw [sc]
    refine ⟨h.nl r.rt (Or.inr ⟨rfl, rfl⟩) z, fun i a b => ?_⟩
    have b : i < (uC c e).nn := b
    have b2 : (uC c e).nn = 0 := by show (sC c e).nn = 0; rw [sc]
    omega
  · show 0 ≤ (sC c e).nn ∧ (sC c e).nn ≤ 12; rw [sc]; exact ⟨Int.le_refl _, by show (0 : Int) ≤ 12; omega⟩
  · intro k' a b
    show (sR r e).nn k' = 0
    have a : (sR r e).rt < k' ∨ (sR r e).rt = k' ∧ (1 : Nat) = 0 := a
    rw [sr] at a ⊢
    exact h.nl k' (Or.inl (a.elim id (fun a => absurd a.2 (by omega)))) b
  · intro q; have q : 7 ≤ (sC c e).rn := q; rw [sc] at q; exact x7 q
  · intro q; have q : 41 ≤ (sC c e).m := q; rw [sc] at q; exact K1.k5L (h.k41 q) (by omega)
  · intro _ q; exact absurd q (by omega)
theorem le5 {x p : Int} (h : x ≤ p) : LE2 (x, 5) (p, 5) := by unfold LE2; simp only; omega
theorem lt5 {x p f : Int} (h : x < p) : LE2 (x, 5) (p, f) := Or.inl h
theorem K1.s5 (h : K1 r c N1 NC Z 2 pc lo) (k : e.1 = 5) (hl : lo ≤ e.2.1) : K1 (uR r e) (uC c e) (N1 ++ nRf r e) (NC ++ nC c e) (Z ++ zE e) 2 0 e.2.1 := by
  have kn : nRf r e = ifP (r.ln + 1 = 41) [(e.2.1, 5)] [] := by unfold nRf; rw [if_neg (by omega), if_neg (by omega), if_neg (by omega), if_neg (by omega), if_pos k]
  have cn : nC c e = ifP (40 < c.m + 1) [(e.2.1, 5)] [] := by unfold nC; rw [if_neg (by omega), if_neg (by omega), if_neg (by omega), if_neg (by omega), if_pos k]
  have sr : sR r e = (RS.mk r.ph r.fp r.rt (r.ln + 1) r.tn r.tw r.tm r.nn r.nw) := by unfold sR; rw [if_neg (by omega), if_neg (by omega), if_neg (by omega), if_neg (by omega), if_pos k]
  have sc : sC c e = (CS.mk c.fp c.rn c.rk c.rp c.cn c.ck c.cp c.cc c.nn c.nk (c.m + 1)) := by unfold sC; rw [if_neg (by omega), if_neg (by omega), if_neg (by omega), if_neg (by omega), if_pos k]
  have hln := h.ln
  refine ⟨?_, LST.fold _ h.l1 (pos_R r e), LST.fold _ h.l2 (pos_C c e), h.dA (fun n q => ?_), h.dB (fun n q => ?_), h.dZ (zE_no (by omega)), ?_, ?_, ?_, ?_, ?_, ?_, ?_, ?_, ?_, ?_, ?_, ?_, ?_⟩
  · show (sR r e).ph = 1; rw [sr]; exact h.ph
  · rw [kn] at q
    obtain ⟨a, b⟩ := mem_if q
    refine ⟨n, List.mem_append.mpr (Or.inr ?_), LE2.rfl⟩
    rw [cn, b]; exact mem_ift (by omega)
  · rw [cn] at q
    obtain ⟨a, b⟩ := mem_if q
    rw [b]
    by_cases z : r.ln + 1 = 41
    · refine ⟨_, inRr ?_, LE2.rfl⟩
      rw [kn]; exact mem_ift z
    · obtain ⟨x, y, u⟩ := h.k41 (by omega)
      exact ⟨_, inNn y, le5 (by omega)⟩
  · show 0 ≤ (sR r e).rt; rw [sr]; exact h.rt0
  · show (sR r e).tn = (sC c e).rn; rw [sr, sc]; exact h.tn
  · show _ ∧ (sC c e).rn = (sR r e).rt ∨ _ ∧ (sC c e).rn = (sR r e).rt + 1; rw [sr, sc]; exact h.rt
  · show ∀ j, 0 ≤ j → j < (sC c e).rn → (sR r e).tw j = (sC c e).rk j; rw [sr, sc]; exact h.tw
  · show ∀ j, 0 ≤ j → (j < (sC c e).rn - 1 ∨ j < (sC c e).rn ∧ _) → (sR r e).tm j = (sC c e).rp j; rw [sr, sc]; exact h.tm
  · intro q; exact absurd q (by omega)
  · show (sR r e).ln = (sC c e).m; rw [sr, sc]; show r.ln + 1 = c.m + 1; omega
  · show _ → (sR r e).rt < 6 → (sR r e).nn (sR r e).rt = (sC c e).nn ∧ ∀ i, 0 ≤ i → i < (sC c e).nn → (sR r e).nw (12 * (sR r e).rt + i) = (sC c e).nk i; rw [sr, sc]; exact h.nn
  · show 0 ≤ (sC c e).nn ∧ (sC c e).nn ≤ 12; rw [sc]; exact h.nb
  · show ∀ k, ((sR r e).rt < k ∨ (sR r e).rt = k ∧ _) → k < 6 → (sR r e).nn k = 0; rw [sr]; exact h.nl
  · intro q; have q : 7 ≤ (sC c e).rn := q; rw [sc] at q; exact K1.k5N (h.k7 q) hl
  · intro q; have q : 41 ≤ (sC c e).m := q; rw [sc] at q
    have q : 41 ≤ c.m + 1 := q
    by_cases z : r.ln + 1 = 41
    · exact ⟨e.2.1, List.mem_append.mpr (Or.inr (by rw [kn]; exact mem_ift z)), Int.le_refl _⟩
    · exact K1.k5L (h.k41 (by omega)) hl
  · intro q; exact absurd q (by omega)
theorem K1.s4 (h : K1 r c N1 NC Z 2 pc lo) (k : e.1 = 4) (hl : lo ≤ e.2.1) : K1 (uR r e) (uC c e) (N1 ++ nRf r e) (NC ++ nC c e) (Z ++ zE e) 2 0 e.2.1 := by
  have kn : nRf r e = nNm r e.2.2.2 e.2.1 := by unfold nRf; rw [if_neg (by omega), if_neg (by omega), if_neg (by omega), if_pos k]
  have cn : nC c e = nCn c e.2.2.2 e.2.1 := by unfold nC; rw [if_neg (by omega), if_neg (by omega), if_neg (by omega), if_pos k]
  have sr : sR r e = sNm r e.2.2.2 := by unfold sR; rw [if_neg (by omega), if_neg (by omega), if_neg (by omega), if_pos k]
  have sc : sC c e = sCn c e.2.2.2 := by unfold sC; rw [if_neg (by omega), if_neg (by omega), if_neg (by omega), if_pos k]
  obtain ⟨r1, r2, r3, r4, r5, r6, r7⟩ := sNm_q r e.2.2.2
  obtain ⟨c1, c2, c3, c4, c5, c6, c7, c8⟩ := sCn_q c e.2.2.2
  have hrn : c.rn = r.rt + 1 := by rcases h.rt with q | q <;> omega
  have np : r.rt < 6 → NCP r c := fun z => h.nn (by omega) z
  refine ⟨?_, LST.fold _ h.l1 (pos_R r e), LST.fold _ h.l2 (pos_C c e), h.dA (fun n q => ?_), h.dB (fun n q => ?_), h.dZ (zE_no (by omega)), ?_, ?_, ?_, ?_, ?_, ?_, ?_, ?_, ?_, ?_, ?_, ?_, ?_⟩
  · show (sR r e).ph = 1; rw [sr, r1]; exact h.ph
  · rw [kn] at q
    by_cases z : r.rt < 6
    · refine ⟨n, List.mem_append.mpr (Or.inr ?_), LE2.rfl⟩
      rw [cn, ← (np z).nt z h.nb.2]; exact q
    · rw [nNm_no z] at q; exact absurd q (by simp)
  · rw [cn] at q
    by_cases z : r.rt < 6
    · refine ⟨n, inRr ?_, LE2.rfl⟩
      rw [kn, (np z).nt z h.nb.2]; exact q
    · obtain ⟨x, y, u⟩ := h.k7 (by omega)
      rw [nCn_mem q]
      exact ⟨_, inNn y, lt5 (by omega)⟩
  · show 0 ≤ (sR r e).rt; rw [sr, r2]; exact h.rt0
  · show (sR r e).tn = (sC c e).rn; rw [sr, sc, r4, c1]; exact h.tn
  · show _ ∧ (sC c e).rn = (sR r e).rt ∨ _ ∧ (sC c e).rn = (sR r e).rt + 1; rw [sr, sc, r2, c1]; exact h.rt
  · show ∀ j, 0 ≤ j → j < (sC c e).rn → (sR r e).tw j = (sC c e).rk j; rw [sr, sc, r5, c1, c2]; exact h.tw
  · show ∀ j, 0 ≤ j → (j < (sC c e).rn - 1 ∨ j < (sC c e).rn ∧ _) → (sR r e).tm j = (sC c e).rp j; rw [sr, sc, r6, c1, c3]; exact h.tm
  · intro q; exact absurd q (by omega)
  · show (sR r e).ln = (sC c e).m; rw [sr, sc, r3, c8]; exact h.ln
  · intro _ z
    have z : (sR r e).rt < 6 := z
    show NCP (sR r e) (sC c e)
    rw [sr, r2] at z
    rw [sr, sc]
    exact (np z).nm h.ph z h.nb.2
  · show 0 ≤ (sC c e).nn ∧ (sC c e).nn ≤ 12; rw [sc]; exact sCn_b h.nb
  · intro k' a b
    have a : (sR r e).rt < k' ∨ (sR r e).rt = k' ∧ (2 : Nat) = 0 := a
    show (sR r e).nn k' = 0
    rw [sr, r2] at a
    rw [sr, r7 k' (by omega)]
    exact h.nl k' (by omega) b
  · intro q; have q : 7 ≤ (sC c e).rn := q; rw [sc, c1] at q; exact K1.k5N (h.k7 q) hl
  · intro q; have q : 41 ≤ (sC c e).m := q; rw [sc, c8] at q; exact K1.k5L (h.k41 q) hl
  · intro q; exact absurd q (by omega)
theorem K1.s3 (h : K1 r c N1 NC Z 1 pc lo) (k : e.1 = 3) (hl : lo ≤ e.2.1) (hm : e.2.2.1 = pc) : K1 (uR r e) (uC c e) (N1 ++ nRf r e) (NC ++ nC c e) (Z ++ zE e) 1 (pc + 1) e.2.1 := by
  have kn : nRf r e = ifP (e.2.2.1 = 4) [(e.2.1, 5)] [] ++ (ifP (r.rt < 6 ∧ fndN r e.2.2.2) [(e.2.1, 2)] [] ++ nNm r e.2.2.2 e.2.1) := by unfold nRf nPa; rw [if_neg (by omega), if_pos k, ifP_t h.ph]
  have cn : nC c e = ifP (fndC c e.2.2.2) [(e.2.1, 2)] [] ++ (ifP (4 ≤ e.2.2.1) [(e.2.1, 5)] [] ++ nCn c e.2.2.2 e.2.1) := by unfold nC; rw [if_neg (by omega), if_pos k]
  have sr : sR r e = sNm r e.2.2.2 := by unfold sR; rw [if_neg (by omega), if_pos k, ifP_t h.ph]
  have sc : sC c e = (CS.mk (sCn c e.2.2.2).fp (sCn c e.2.2.2).rn (sCn c e.2.2.2).rk (up1 c.rp (c.rn - 1) (e.2.2.1 + 1)) (sCn c e.2.2.2).cn (sCn c e.2.2.2).ck (sCn c e.2.2.2).cp (sCn c e.2.2.2).cc (sCn c e.2.2.2).nn (sCn c e.2.2.2).nk (sCn c e.2.2.2).m) := by unfold sC; rw [if_neg (by omega), if_pos k]
  obtain ⟨r1, r2, r3, r4, r5, r6, r7⟩ := sNm_q r e.2.2.2
  obtain ⟨c1, c2, c3, c4, c5, c6, c7, c8⟩ := sCn_q c e.2.2.2
  have d1 : (sC c e).rn = c.rn := by rw [sc]; exact c1
  have d2 : (sC c e).rk = c.rk := by rw [sc]; exact c2
  have d3 : (sC c e).rp = up1 c.rp (c.rn - 1) (e.2.2.1 + 1) := by rw [sc]
  have d8 : (sC c e).m = c.m := by rw [sc]; exact c8
  have hrn : c.rn = r.rt + 1 := by rcases h.rt with q | q <;> omega
  have np : r.rt < 6 → NCP r c := fun z => h.nn (by omega) z
  refine ⟨?_, LST.fold _ h.l1 (pos_R r e), LST.fold _ h.l2 (pos_C c e), h.dA (fun n q => ?_), h.dB (fun n q => ?_), h.dZ (zE_no (by omega)), ?_, ?_, ?_, ?_, ?_, ?_, ?_, ?_, ?_, ?_, ?_, ?_, ?_⟩
  · show (sR r e).ph = 1; rw [sr, r1]; exact h.ph
  · refine ⟨n, List.mem_append.mpr (Or.inr ?_), LE2.rfl⟩
    rw [kn] at q; rw [cn]
    rcases List.mem_append.mp q with q | q
    · obtain ⟨a, b⟩ := mem_if q
      rw [b]; exact List.mem_append.mpr (Or.inr (List.mem_append.mpr (Or.inl (mem_ift (by omega)))))
    · rcases List.mem_append.mp q with q | q
      · obtain ⟨a, b⟩ := mem_if q
        rw [b]; exact List.mem_append.mpr (Or.inl (mem_ift ((np a.1).iff.mp a.2)))
      · by_cases z : r.rt < 6
        · rw [(np z).nt z h.nb.2] at q
          exact List.mem_append.mpr (Or.inr (List.mem_append.mpr (Or.inr q)))
        · rw [nNm_no z] at q; exact absurd q (by simp)
  · rw [cn] at q
    rcases List.mem_append.mp q with q | q
    · obtain ⟨a, b⟩ := mem_if q
      rw [b]
      by_cases z : r.rt < 6
      · refine ⟨_, inRr ?_, LE2.rfl⟩
        rw [kn]; exact List.mem_append.mpr (Or.inr (List.mem_append.mpr (Or.inl (mem_ift ⟨z, (np z).iff.mpr a⟩))))
      · obtain ⟨x, y, u⟩ := h.k7 (by omega)
        exact ⟨_, inNn y, lt5 (by omega)⟩
    · rcases List.mem_append.mp q with q | q
      · obtain ⟨a, b⟩ := mem_if q
        rw [b]
        by_cases z : e.2.2.1 = 4
        · refine ⟨_, inRr ?_, LE2.rfl⟩
          rw [kn]; exact List.mem_append.mpr (Or.inl (mem_ift z))
        · obtain ⟨x, y, u⟩ := h.k5 rfl (by omega)
          exact ⟨_, inNn y, le5 (by omega)⟩
      · by_cases z : r.rt < 6
        · refine ⟨n, inRr ?_, LE2.rfl⟩
          rw [kn, (np z).nt z h.nb.2]; exact List.mem_append.mpr (Or.inr (List.mem_append.mpr (Or.inr q)))
        · obtain ⟨x, y, u⟩ := h.k7 (by omega)
          rw [nCn_mem q]
          exact ⟨_, inNn y, lt5 (by omega)⟩
  · show 0 ≤ (sR r e).rt; rw [sr, r2]; exact h.rt0
  · show (sR r e).tn = (sC c e).rn; rw [sr, d1, r4]; exact h.tn
  · show _ ∧ (sC c e).rn = (sR r e).rt ∨ _ ∧ (sC c e).rn = (sR r e).rt + 1; rw [sr, d1, r2]; exact h.rt
  · show ∀ j, 0 ≤ j → j < (sC c e).rn → (sR r e).tw j = (sC c e).rk j; rw [sr, r5, d1, d2]; exact h.tw
  · intro j a b
    have b : j < (sC c e).rn - 1 ∨ j < (sC c e).rn ∧ (1 : Nat) ≠ 1 := b
    show (sR r e).tm j = (sC c e).rp j
    rw [d1] at b
    rw [sr, r6, d3, up1_ne (by omega)]
    exact h.tm j a (by omega)
  · intro _
    show (sC c e).rp ((sC c e).rn - 1) = pc + 1
    rw [d1, d3, up1_eq, hm]
  · show (sR r e).ln = (sC c e).m; rw [sr, d8, r3]; exact h.ln
  · intro _ z
    have z : (sR r e).rt < 6 := z
    show NCP (sR r e) (sC c e)
    rw [sr, r2] at z
    rw [sr, sc]
    exact (np z).nm h.ph z h.nb.2
  · show 0 ≤ (sC c e).nn ∧ (sC c e).nn ≤ 12; rw [sc]; exact sCn_b h.nb
  · intro k' a b
    have a : (sR r e).rt < k' ∨ (sR r e).rt = k' ∧ (1 : Nat) = 0 := a
    show (sR r e).nn k' = 0
    rw [sr, r2] at a
    rw [sr, r7 k' (by omega)]
    exact h.nl k' (by omega) b
  · intro q; have q : 7 ≤ (sC c e).rn := q; rw [d1] at q; exact K1.k5N (h.k7 q) hl
  · intro q; have q : 41 ≤ (sC c e).m := q; rw [d8] at q; exact K1.k5L (h.k41 q) hl
  · intro _ q
    by_cases z : e.2.2.1 = 4
    · exact ⟨e.2.1, List.mem_append.mpr (Or.inr (by rw [kn]; exact List.mem_append.mpr (Or.inl (mem_ift z)))), Int.le_refl _⟩
    · exact K1.k5L (h.k5 rfl (by omega)) hl
theorem K1.s7 (h : K1 r c N1 NC Z 1 pc lo) (k : e.1 = 7) (hm : e.2.2.1 = pc) : K1 (uR r e) (uC c e) (N1 ++ nRf r e) (NC ++ nC c e) (Z ++ zE e) 2 0 lo := by
  have kn : nRf r e = [] := by unfold nRf; rw [if_neg (by omega), if_neg (by omega), if_pos k]
  have cn : nC c e = [] := by unfold nC; rw [if_neg (by omega), if_neg (by omega), if_pos k]
  have sr : sR r e = (RS.mk r.ph r.fp r.rt r.ln r.tn r.tw (up1 r.tm (r.tn - 1) e.2.2.1) r.nn r.nw) := by unfold sR; rw [if_neg (by omega), if_neg (by omega), if_pos k, ifP_t h.ph]
  have sc : sC c e = c := by unfold sC; rw [if_neg (by omega), if_neg (by omega), if_pos k]
  have hrn : c.rn = r.rt + 1 := by rcases h.rt with q | q <;> omega
  have htn := h.tn
  refine ⟨?_, LST.fold _ h.l1 (pos_R r e), LST.fold _ h.l2 (pos_C c e), h.dA (by rw [kn]; exact DMN.nil), h.dB (by rw [cn]; exact DMN.nil), h.dZ (zE_no (by omega)), ?_, ?_, ?_, ?_, ?_, ?_, ?_, ?_, ?_, ?_, ?_, ?_, ?_⟩
  · show (sR r e).ph = 1; rw [sr]; exact h.ph
  · show 0 ≤ (sR r e).rt; rw [sr]; exact h.rt0
  · show (sR r e).tn = (sC c e).rn; rw [sr, sc]; exact h.tn
  · right; show (2 : Nat) ≠ 0 ∧ (sC c e).rn = (sR r e).rt + 1; rw [sr, sc]; exact ⟨by omega, hrn⟩
  · show ∀ j, 0 ≤ j → j < (sC c e).rn → (sR r e).tw j = (sC c e).rk j; rw [sr, sc]; exact h.tw
  · intro j a b
    have b : j < (sC c e).rn - 1 ∨ j < (sC c e).rn ∧ (2 : Nat) ≠ 1 := b
    show (sR r e).tm j = (sC c e).rp j
    rw [sc] at b
    rw [sr, sc]
    show up1 r.tm (r.tn - 1) e.2.2.1 j = c.rp j
    by_cases z : j = c.rn - 1
    · rw [z, show r.tn - 1 = c.rn - 1 by omega, up1_eq, h.pp rfl]; exact hm
    · rw [up1_ne (by omega)]; exact h.tm j a (Or.inl (by omega))
  · intro q; exact absurd q (by omega)
  · show (sR r e).ln = (sC c e).m; rw [sr, sc]; exact h.ln
  · intro _; show (sR r e).rt < 6 → (sR r e).nn (sR r e).rt = (sC c e).nn ∧ ∀ i, 0 ≤ i → i < (sC c e).nn → (sR r e).nw (12 * (sR r e).rt + i) = (sC c e).nk i; rw [sr, sc]; exact h.nn (by omega)
  · show 0 ≤ (sC c e).nn ∧ (sC c e).nn ≤ 12; rw [sc]; exact h.nb
  · intro k' a b
    have a : (sR r e).rt < k' ∨ (sR r e).rt = k' ∧ (2 : Nat) = 0 := a
    show (sR r e).nn k' = 0
    rw [sr] at a ⊢
    exact h.nl k' (Or.inl (a.elim id (fun a => absurd a.2 (by omega)))) b
  · intro q; have q : 7 ≤ (sC c e).rn := q; rw [sc] at q; exact K1.k5N (h.k7 q) (Int.le_refl _)
  · intro q; have q : 41 ≤ (sC c e).m := q; rw [sc] at q; exact K1.k5L (h.k41 q) (Int.le_refl _)
  · intro q; exact absurd q (by omega)
theorem K1.s1 (h : K1 r c N1 NC Z 2 pc lo) (k : e.1 = 1) : K1 (uR r e) (uC c e) (N1 ++ nRf r e) (NC ++ nC c e) (Z ++ zE e) 2 0 lo := by
  have kn : nRf r e = [] := by unfold nRf nCl; rw [if_neg (by omega), if_neg (by omega), if_neg (by omega), if_neg (by omega), if_neg (by omega), if_pos k, ifP_f (by rw [h.ph]; omega)]
  have cn : nC c e = [] := by unfold nC; rw [if_neg (by omega), if_neg (by omega), if_neg (by omega), if_neg (by omega), if_neg (by omega), if_pos k]
  have sr : sR r e = r := by unfold sR; rw [if_neg (by omega), if_neg (by omega), if_neg (by omega), if_neg (by omega), if_neg (by omega), if_pos k]
  have sc : sC c e = (CS.mk c.fp c.rn c.rk c.rp (c.cn + 1) (up1 c.ck c.cn e.2.2.2) (up1 c.cp c.cn e.2.1) (up1 c.cc c.cn e.2.2.1) c.nn c.nk c.m) := by unfold sC; rw [if_neg (by omega), if_neg (by omega), if_neg (by omega), if_neg (by omega), if_neg (by omega), if_pos k]
  refine ⟨?_, LST.fold _ h.l1 (pos_R r e), LST.fold _ h.l2 (pos_C c e), h.dA (by rw [kn]; exact DMN.nil), h.dB (by rw [cn]; exact DMN.nil), h.dZ (zE_no (by omega)), ?_, ?_, ?_, ?_, ?_, ?_, ?_, ?_, ?_, ?_, ?_, ?_, ?_⟩
  · show (sR r e).ph = 1; rw [sr]; exact h.ph
  · show 0 ≤ (sR r e).rt; rw [sr]; exact h.rt0
  · show (sR r e).tn = (sC c e).rn; rw [sr, sc]; exact h.tn
  · show _ ∧ (sC c e).rn = (sR r e).rt ∨ _ ∧ (sC c e).rn = (sR r e).rt + 1; rw [sr, sc]; exact h.rt
  · show ∀ j, 0 ≤ j → j < (sC c e).rn → (sR r e).tw j = (sC c e).rk j; rw [sr, sc]; exact h.tw
  · show ∀ j, 0 ≤ j → (j < (sC c e).rn - 1 ∨ j < (sC c e).rn ∧ _) → (sR r e).tm j = (sC c e).rp j; rw [sr, sc]; exact h.tm
  · intro q; exact absurd q (by omega)
  · show (sR r e).ln = (sC c e).m; rw [sr, sc]; exact h.ln
  · show _ → (sR r e).rt < 6 → (sR r e).nn (sR r e).rt = (sC c e).nn ∧ ∀ i, 0 ≤ i → i < (sC c e).nn → (sR r e).nw (12 * (sR r e).rt + i) = (sC c e).nk i; rw [sr, sc]; exact h.nn
  · show 0 ≤ (sC c e).nn ∧ (sC c e).nn ≤ 12; rw [sc]; exact h.nb
  · show ∀ k, ((sR r e).rt < k ∨ (sR r e).rt = k ∧ _) → k < 6 → (sR r e).nn k = 0; rw [sr]; exact h.nl
  · intro q; have q : 7 ≤ (sC c e).rn := q; rw [sc] at q; exact K1.k5N (h.k7 q) (Int.le_refl _)
  · intro q; have q : 41 ≤ (sC c e).m := q; rw [sc] at q; exact K1.k5L (h.k41 q) (Int.le_refl _)
  · intro q; exact absurd q (by omega)
theorem K1.s0 (h : K1 r c N1 NC Z 2 pc lo) (k : e.1 = 0) : K1 (uR r e) (uC c e) (N1 ++ nRf r e) (NC ++ nC c e) (Z ++ zE e) 0 0 lo := by
  have kn : nRf r e = [] := by unfold nRf; rw [if_neg (by omega), if_neg (by omega), if_neg (by omega), if_neg (by omega), if_neg (by omega), if_neg (by omega), if_pos k, ifP_f (fun q => by have := q.1; rw [h.ph] at this; omega)]
  have cn : nC c e = ifP (120 < e.2.2.1) [(e.2.1, 5)] [] := by unfold nC; rw [if_neg (by omega), if_neg (by omega), if_neg (by omega), if_neg (by omega), if_neg (by omega), if_neg (by omega), if_pos k]
  have sr : sR r e = (RS.mk r.ph r.fp (r.rt + 1) r.ln r.tn r.tw r.tm r.nn r.nw) := by unfold sR; rw [if_neg (by omega), if_neg (by omega), if_neg (by omega), if_neg (by omega), if_neg (by omega), if_neg (by omega), if_pos k]
  have sc : sC c e = c := by unfold sC; rw [if_neg (by omega), if_neg (by omega), if_neg (by omega), if_neg (by omega), if_neg (by omega), if_neg (by omega)]
  have hrn : c.rn = r.rt + 1 := by rcases h.rt with q | q <;> omega
  have h0 := h.rt0
  refine ⟨?_, LST.fold _ h.l1 (pos_R r e), LST.fold _ h.l2 (pos_C c e), h.dA (by rw [kn]; exact DMN.nil), h.dB (fun n q => ?_), h.dZ (fun n q => ?_), ?_, ?_, ?_, ?_, ?_, ?_, ?_, ?_, ?_, ?_, ?_, ?_, ?_⟩
  · show (sR r e).ph = 1; rw [sr]; exact h.ph
  · rw [cn] at q
    obtain ⟨a, b⟩ := mem_if q
    exact ⟨n, List.mem_append.mpr (Or.inr (List.mem_append.mpr (Or.inr (by rw [b]; exact mem_ift ⟨k, a⟩)))), LE2.rfl⟩
  · obtain ⟨a, b⟩ := mem_if q
    rw [cn, b]; exact mem_ift a.2
  · show 0 ≤ (sR r e).rt; rw [sr]; show 0 ≤ r.rt + 1; omega
  · show (sR r e).tn = (sC c e).rn; rw [sr, sc]; exact h.tn
  · left; show (0 : Nat) = 0 ∧ (sC c e).rn = (sR r e).rt; rw [sr, sc]; exact ⟨rfl, hrn⟩
  · show ∀ j, 0 ≤ j → j < (sC c e).rn → (sR r e).tw j = (sC c e).rk j; rw [sr, sc]; exact h.tw
  · intro j a b
    have b : j < (sC c e).rn - 1 ∨ j < (sC c e).rn ∧ (0 : Nat) ≠ 1 := b
    show (sR r e).tm j = (sC c e).rp j
    rw [sc] at b
    rw [sr, sc]
    exact h.tm j a (Or.inr ⟨by omega, by omega⟩)
  · intro q; exact absurd q (by omega)
  · show (sR r e).ln = (sC c e).m; rw [sr, sc]; exact h.ln
  · intro q; exact absurd rfl q
  · show 0 ≤ (sC c e).nn ∧ (sC c e).nn ≤ 12; rw [sc]; exact h.nb
  · intro k' a b
    have a : (sR r e).rt < k' ∨ (sR r e).rt = k' ∧ (0 : Nat) = 0 := a
    show (sR r e).nn k' = 0
    rw [sr] at a ⊢
    have a : r.rt + 1 < k' ∨ r.rt + 1 = k' ∧ (0 : Nat) = 0 := a
    exact h.nl k' (Or.inl (by omega)) b
  · intro q; have q : 7 ≤ (sC c e).rn := q; rw [sc] at q; exact K1.k5N (h.k7 q) (Int.le_refl _)
  · intro q; have q : 41 ≤ (sC c e).m := q; rw [sc] at q; exact K1.k5L (h.k41 q) (Int.le_refl _)
  · intro q; exact absurd q (by omega)
end STEP
noncomputable def NR : RS → List EW → List NT
  | _, [] => []
  | r, e :: es => nRf r e ++ NR (uR r e) es
noncomputable def NCs : CS → List EW → List NT
  | _, [] => []
  | c, e :: es => nC c e ++ NCs (uC c e) es
noncomputable def zs : List EW → List NT
  | [] => []
  | e :: es => zE e ++ zs es
theorem K1.run : ∀ (es : List EW) {r : RS} {c : CS} {N1 NC Z : List NT} {md : Nat} {pc lo : Int}, K1 r c N1 NC Z md pc lo → SHP es md pc lo → ∃ pc' lo', K1 (es.foldl uR r) (es.foldl uC c) (N1 ++ NR r es) (NC ++ NCs c es) (Z ++ zs es) 0 pc' lo'
  | [], r, c, N1, NC, Z, md, pc, lo, h, s => by
    have s : md = 0 := s
    subst s
    refine ⟨pc, lo, ?_⟩
    show K1 r c (N1 ++ []) (NC ++ []) (Z ++ []) 0 pc lo
    rw [List.append_nil, List.append_nil, List.append_nil]
    exact h
  | e :: es, r, c, N1, NC, Z, md, pc, lo, h, s => by
    have go : ∀ {md' : Nat} {pc' lo' : Int}, K1 (uR r e) (uC c e) (N1 ++ nRf r e) (NC ++ nC c e) (Z ++ zE e) md' pc' lo' → SHP es md' pc' lo' → ∃ pc'' lo'', K1 ((e :: es).foldl uR r) ((e :: es).foldl uC c) (N1 ++ NR r (e :: es)) (NC ++ NCs c (e :: es)) (Z ++ zs (e :: es)) 0 pc'' lo'' := fun k s => by
      obtain ⟨p, l, q⟩ := K1.run es k s
      refine ⟨p, l, ?_⟩
      rw [List.append_assoc, List.append_assoc, List.append_assoc] at q
      exact q
    rcases s with ⟨rfl, k, a, s⟩ | ⟨rfl, k, a, m, s⟩ | ⟨rfl, k, m, s⟩ | ⟨rfl, k, a, s⟩ | ⟨rfl, k, s⟩ | ⟨rfl, k, s⟩
    · exact go (h.s2 k a) s
    · exact go (h.s3 k a m) s
    · exact go (h.s7 k m) s
    · rcases k with k | k
      · exact go (h.s4 k a) s
      · exact go (h.s5 k a) s
    · exact go (h.s1 k) s
    · exact go (h.s0 k) s
end
section
def NML (r f : RS) : Prop := ∀ k, 0 ≤ k → k < 6 → r.nn k ≤ f.nn k ∧ ∀ i, 0 ≤ i → i < r.nn k → f.nw (12 * k + i) = r.nw (12 * k + i)
def NBD (r : RS) : Prop := ∀ k, 0 ≤ k → k < 6 → 0 ≤ r.nn k ∧ r.nn k ≤ 12
theorem NML.rfl {r : RS} : NML r r := fun _ _ _ => ⟨Int.le_refl _, fun _ _ _ => Eq.refl _⟩
theorem NML.trans {r f g : RS} (h : NML r f) (k : NML f g) : NML r g := fun j a b => ⟨Int.le_trans (h j a b).1 (k j a b).1, fun i x y => ((k j a b).2 i x (by have := (h j a b).1; omega)).trans ((h j a b).2 i x y)⟩
theorem sNm_m {r : RS} {w : Int64} (h0 : 0 ≤ r.rt) (hb : NBD r) : NML r (sNm r w) ∧ NBD (sNm r w) := by
  by_cases z : r.ph = 1 ∧ r.rt < 6 ∧ ¬ fndN r w ∧ r.nn r.rt ≠ 12
  · have e : sNm r w = (RS.mk r.ph r.fp r.rt r.ln r.tn r.tw r.tm (up1 r.nn r.rt (r.nn r.rt + 1)) (up1 r.nw (12 * r.rt + r.nn r.rt) w)) := ifP_t z
    rw [e]
    have hr := hb r.rt h0 z.2.1
    have hn := z.2.2.2
    refine ⟨fun k a b => ⟨?_, fun i x y => ?_⟩, fun k a b => ?_⟩
    · show r.nn k ≤ up1 r.nn r.rt (r.nn r.rt + 1) k
      by_cases q : k = r.rt
      · rw [q, up1_eq]; omega
      · rw [up1_ne q]; exact Int.le_refl _
    · show up1 r.nw (12 * r.rt + r.nn r.rt) w (12 * k + i) = r.nw (12 * k + i)
      refine up1_ne ?_
      have hk := hb k a b
      by_cases q : k = r.rt
      · rw [q] at y ⊢; omega
      · omega
    · show 0 ≤ up1 r.nn r.rt (r.nn r.rt + 1) k ∧ up1 r.nn r.rt (r.nn r.rt + 1) k ≤ 12
      by_cases q : k = r.rt
      · rw [q, up1_eq]; omega
      · rw [up1_ne q]; exact hb k a b
  · have e : sNm r w = r := ifP_f z
    rw [e]; exact ⟨NML.rfl, hb⟩
theorem uR_m {r : RS} {e : EW} (h0 : 0 ≤ r.rt) (hb : NBD r) : NML r (uR r e) ∧ NBD (uR r e) ∧ 0 ≤ (uR r e).rt ∧ (uR r e).ph = r.ph := by
  have go : ∀ {s : RS}, sR r e = s → NML r s → NBD s → 0 ≤ s.rt → s.ph = r.ph → NML r (uR r e) ∧ NBD (uR r e) ∧ 0 ≤ (uR r e).rt ∧ (uR r e).ph = r.ph := fun q a b c d => by
    have a2 : NML r (sR r e) := by rw [q]; exact a
    have b2 : NBD (sR r e) := by rw [q]; exact b
    exact ⟨a2, b2, by show 0 ≤ (sR r e).rt; rw [q]; exact c, by show (sR r e).ph = r.ph; rw [q]; exact d⟩
  have nm := sNm_m (w := e.2.2.2) h0 hb
  have nq := sNm_q r e.2.2.2
  by_cases k2 : e.1 = 2
  · by_cases z : r.ph = 1
    · exact go (s := (RS.mk r.ph r.fp r.rt r.ln (r.tn + 1) (up1 r.tw r.tn e.2.2.2) r.tm r.nn r.nw)) (by unfold sR; rw [if_pos k2, ifP_t z]) (NML.rfl (r := r)) hb h0 rfl
    · exact go (by unfold sR; rw [if_pos k2, ifP_f z]) NML.rfl hb h0 rfl
  by_cases k3 : e.1 = 3
  · by_cases z : r.ph = 1
    · exact go (by unfold sR; rw [if_neg k2, if_pos k3, ifP_t z]) nm.1 nm.2 (by rw [nq.2.1]; exact h0) nq.1
    · exact go (by unfold sR; rw [if_neg k2, if_pos k3, ifP_f z]) NML.rfl hb h0 rfl
  by_cases k7 : e.1 = 7
  · by_cases z : r.ph = 1
    · exact go (s := (RS.mk r.ph r.fp r.rt r.ln r.tn r.tw (up1 r.tm (r.tn - 1) e.2.2.1) r.nn r.nw)) (by unfold sR; rw [if_neg k2, if_neg k3, if_pos k7, ifP_t z]) (NML.rfl (r := r)) hb h0 rfl
    · exact go (by unfold sR; rw [if_neg k2, if_neg k3, if_pos k7, ifP_f z]) NML.rfl hb h0 rfl
  by_cases k4 : e.1 = 4
  · exact go (by unfold sR; rw [if_neg k2, if_neg k3, if_neg k7, if_pos k4]) nm.1 nm.2 (by rw [nq.2.1]; exact h0) nq.1
  by_cases k5 : e.1 = 5
  · exact go (s := (RS.mk r.ph r.fp r.rt (r.ln + 1) r.tn r.tw r.tm r.nn r.nw)) (by unfold sR; rw [if_neg k2, if_neg k3, if_neg k7, if_neg k4, if_pos k5]) (NML.rfl (r := r)) hb h0 rfl
  by_cases k1 : e.1 = 1
  · exact go (by unfold sR; rw [if_neg k2, if_neg k3, if_neg k7, if_neg k4, if_neg k5, if_pos k1]) NML.rfl hb h0 rfl
  by_cases k0 : e.1 = 0
  · exact go (s := (RS.mk r.ph r.fp (r.rt + 1) r.ln r.tn r.tw r.tm r.nn r.nw)) (by unfold sR; rw [if_neg k2, if_neg k3, if_neg k7, if_neg k4, if_neg k5, if_neg k1, if_pos k0]) (NML.rfl (r := r)) hb (by show 0 ≤ r.rt + 1; omega) rfl
  · exact go (by unfold sR; rw [if_neg k2, if_neg k3, if_neg k7, if_neg k4, if_neg k5, if_neg k1, if_neg k0]) NML.rfl hb h0 rfl
theorem fold_m : ∀ (es : List EW) {r : RS}, 0 ≤ r.rt → NBD r → NML r (es.foldl uR r)
  | [], _, _, _ => NML.rfl
  | e :: es, r, h0, hb => by
    have q := uR_m (e := e) h0 hb
    exact q.1.trans (fold_m es q.2.2.1 q.2.1)
noncomputable def cE (f : RS) (e : EW) : List NT := ifP (e.1 = 1) (ifP (∃ q, fndR f e.2.2.2 q) (ifP (∃ q, fndR f e.2.2.2 q ∧ e.2.2.1 ≠ f.tm q) [(e.2.1, 4)] []) [(e.2.1, 3)]) []
noncomputable def cEs (f : RS) : List EW → List NT
  | [] => []
  | e :: es => cE f e ++ cEs f es
def K2 (a f b : RS) : Prop := a.ph = 1 ∧ b.ph = 2 ∧ b.rt = a.rt ∧ b.ln = a.ln ∧ 0 ≤ a.rt ∧ NBD a ∧ NML a f ∧ b.tn = f.tn ∧ b.tw = f.tw ∧ b.tm = f.tm ∧ b.nn = f.nn ∧ b.nw = f.nw
theorem cE_no {f : RS} {e : EW} (h : e.1 ≠ 1) : cE f e = [] := ifP_f h
theorem zE_n {e : EW} (h : e.1 ≠ 0) : zE e = [] := ifP_f (fun q => h q.1)
theorem K2.step {a f b : RS} {e : EW} (h : K2 a f b) (hf : NML (uR a e) f) : K2 (uR a e) f (uR b e) ∧ (∀ n ∈ nRf b e, n ∈ nRf a e ∨ n ∈ cE f e ∨ n ∈ zE e) ∧ (∀ n ∈ cE f e, n ∈ nRf b e) ∧ (∀ n ∈ zE e, n ∈ nRf b e) := by
  obtain ⟨h1, h2, h3, h4, h5, h6, h7, h8, h9, h10, h11, h12⟩ := h
  obtain ⟨m1, m2, m3, m4⟩ := uR_m (e := e) h5 h6
  have nb : ∀ w, nNm b w = nNm b w := fun _ => rfl
  have s2 : ∀ {s : RS}, sR b e = s → s = b ∨ s = (RS.mk b.ph b.fp b.rt (b.ln + 1) b.tn b.tw b.tm b.nn b.nw) ∨ s = (RS.mk b.ph b.fp (b.rt + 1) b.ln b.tn b.tw b.tm b.nn b.nw) → s.rt = (uR a e).rt → s.ln = (uR a e).ln → K2 (uR a e) f (uR b e) := fun {s} q w x y => by
    have base : s.ph = 2 ∧ s.tn = f.tn ∧ s.tw = f.tw ∧ s.tm = f.tm ∧ s.nn = f.nn ∧ s.nw = f.nw := by
      rcases w with w | w | w <;> rw [w] <;> exact ⟨h2, h8, h9, h10, h11, h12⟩
    refine ⟨m4.trans h1, ?_, ?_, ?_, m3, m2, hf, ?_, ?_, ?_, ?_, ?_⟩
    · show (sR b e).ph = 2; rw [q]; exact base.1
    · show (sR b e).rt = _; rw [q]; exact x
    · show (sR b e).ln = _; rw [q]; exact y
    · show (sR b e).tn = _; rw [q]; exact base.2.1
    · show (sR b e).tw = _; rw [q]; exact base.2.2.1
    · show (sR b e).tm = _; rw [q]; exact base.2.2.2.1
    · show (sR b e).nn = _; rw [q]; exact base.2.2.2.2.1
    · show (sR b e).nw = _; rw [q]; exact base.2.2.2.2.2
  have p1 : ¬ b.ph = 1 := by rw [h2]; omega
  have sb : ∀ w, sNm b w = b := fun w => ifP_f (fun q => p1 q.1)
  have nq := sNm_q a e.2.2.2
  have nmem : ∀ n : NT, n ∈ ([] : List NT) → False := fun n q => by simp at q
  by_cases k2 : e.1 = 2
  · have sa : (uR a e).rt = a.rt ∧ (uR a e).ln = a.ln := by
      show (sR a e).rt = a.rt ∧ (sR a e).ln = a.ln
      have : sR a e = (RS.mk a.ph a.fp a.rt a.ln (a.tn + 1) (up1 a.tw a.tn e.2.2.2) a.tm a.nn a.nw) := by unfold sR; rw [if_pos k2, ifP_t h1]
      rw [this]; exact ⟨rfl, rfl⟩
    have n0 : nRf b e = [] := by unfold nRf nRn; rw [if_pos k2, ifP_f p1]
    refine ⟨s2 (s := b) (by unfold sR; rw [if_pos k2, ifP_f p1]) (Or.inl rfl) (by rw [sa.1]; exact h3) (by rw [sa.2]; exact h4), ?_, ?_, ?_⟩
    · intro n q; rw [n0] at q; exact (nmem n q).elim
    · intro n q; rw [cE_no (by omega)] at q; exact (nmem n q).elim
    · intro n q; rw [zE_n (by omega)] at q; exact (nmem n q).elim
  by_cases k3 : e.1 = 3
  · have sa : (uR a e).rt = a.rt ∧ (uR a e).ln = a.ln := by
      show (sR a e).rt = a.rt ∧ (sR a e).ln = a.ln
      have : sR a e = sNm a e.2.2.2 := by unfold sR; rw [if_neg k2, if_pos k3, ifP_t h1]
      rw [this]; exact ⟨nq.2.1, nq.2.2.1⟩
    have n0 : nRf b e = [] := by unfold nRf nPa; rw [if_neg k2, if_pos k3, ifP_f p1]
    refine ⟨s2 (s := b) (by unfold sR; rw [if_neg k2, if_pos k3, ifP_f p1]) (Or.inl rfl) (by rw [sa.1]; exact h3) (by rw [sa.2]; exact h4), ?_, ?_, ?_⟩
    · intro n q; rw [n0] at q; exact (nmem n q).elim
    · intro n q; rw [cE_no (by omega)] at q; exact (nmem n q).elim
    · intro n q; rw [zE_n (by omega)] at q; exact (nmem n q).elim
  by_cases k7 : e.1 = 7
  · have sa : (uR a e).rt = a.rt ∧ (uR a e).ln = a.ln := by
      show (sR a e).rt = a.rt ∧ (sR a e).ln = a.ln
      have : sR a e = (RS.mk a.ph a.fp a.rt a.ln a.tn a.tw (up1 a.tm (a.tn - 1) e.2.2.1) a.nn a.nw) := by unfold sR; rw [if_neg k2, if_neg k3, if_pos k7, ifP_t h1]
      rw [this]; exact ⟨rfl, rfl⟩
    have n0 : nRf b e = [] := by unfold nRf; rw [if_neg k2, if_neg k3, if_pos k7]
    refine ⟨s2 (s := b) (by unfold sR; rw [if_neg k2, if_neg k3, if_pos k7, ifP_f p1]) (Or.inl rfl) (by rw [sa.1]; exact h3) (by rw [sa.2]; exact h4), ?_, ?_, ?_⟩
    · intro n q; rw [n0] at q; exact (nmem n q).elim
    · intro n q; rw [cE_no (by omega)] at q; exact (nmem n q).elim
    · intro n q; rw [zE_n (by omega)] at q; exact (nmem n q).elim
  by_cases k4 : e.1 = 4
  · have ea : sR a e = sNm a e.2.2.2 := by unfold sR; rw [if_neg k2, if_neg k3, if_neg k7, if_pos k4]
    have sa : (uR a e).rt = a.rt ∧ (uR a e).ln = a.ln := by
      show (sR a e).rt = a.rt ∧ (sR a e).ln = a.ln
      rw [ea]; exact ⟨nq.2.1, nq.2.2.1⟩
    have n0 : nRf b e = nNm b e.2.2.2 e.2.1 := by unfold nRf; rw [if_neg k2, if_neg k3, if_neg k7, if_pos k4]
    have n1 : nRf a e = nNm a e.2.2.2 e.2.1 := by unfold nRf; rw [if_neg k2, if_neg k3, if_neg k7, if_pos k4]
    refine ⟨s2 (s := b) (by unfold sR; rw [if_neg k2, if_neg k3, if_neg k7, if_pos k4]; exact sb _) (Or.inl rfl) (by rw [sa.1]; exact h3) (by rw [sa.2]; exact h4), ?_, ?_, ?_⟩
    · intro n q
      rw [n0] at q
      obtain ⟨⟨u1, u2, u3⟩, u4⟩ := mem_if q
      rw [h3] at u1 u3
      rw [h11] at u3
      left
      rw [n1, u4]
      have nf : ¬ fndN a e.2.2.2 := fun ⟨i, x, y, z⟩ => u2 ⟨i, x, by rw [h3, h11]; have := (h7 a.rt h5 u1).1; omega, by rw [h3, h12, (h7 a.rt h5 u1).2 i x y]; exact z⟩
      refine mem_ift ⟨u1, nf, Classical.byContradiction fun v => ?_⟩
      have e9 : sNm a e.2.2.2 = (RS.mk a.ph a.fp a.rt a.ln a.tn a.tw a.tm (up1 a.nn a.rt (a.nn a.rt + 1)) (up1 a.nw (12 * a.rt + a.nn a.rt) e.2.2.2)) := ifP_t ⟨h1, u1, nf, v⟩
      have g1 : (uR a e).nn a.rt = a.nn a.rt + 1 := by show (sR a e).nn a.rt = _; rw [ea, e9]; exact up1_eq
      have g2 : (uR a e).nw (12 * a.rt + a.nn a.rt) = e.2.2.2 := by show (sR a e).nw _ = _; rw [ea, e9]; exact up1_eq
      have hb := h6 a.rt h5 u1
      have hq := hf a.rt h5 u1
      refine u2 ⟨a.nn a.rt, hb.1, ?_, ?_⟩
      · rw [h3, h11]; have := hq.1; omega
      · rw [h3, h12, hq.2 (a.nn a.rt) hb.1 (by omega)]; exact g2
    · intro n q; rw [cE_no (by omega)] at q; exact (nmem n q).elim
    · intro n q; rw [zE_n (by omega)] at q; exact (nmem n q).elim
  by_cases k5 : e.1 = 5
  · have sa : (uR a e).rt = a.rt ∧ (uR a e).ln = a.ln + 1 := by
      show (sR a e).rt = a.rt ∧ (sR a e).ln = a.ln + 1
      have : sR a e = (RS.mk a.ph a.fp a.rt (a.ln + 1) a.tn a.tw a.tm a.nn a.nw) := by unfold sR; rw [if_neg k2, if_neg k3, if_neg k7, if_neg k4, if_pos k5]
      rw [this]; exact ⟨rfl, rfl⟩
    have n0 : nRf b e = ifP (b.ln + 1 = 41) [(e.2.1, 5)] [] := by unfold nRf; rw [if_neg k2, if_neg k3, if_neg k7, if_neg k4, if_pos k5]
    have n1 : nRf a e = ifP (a.ln + 1 = 41) [(e.2.1, 5)] [] := by unfold nRf; rw [if_neg k2, if_neg k3, if_neg k7, if_neg k4, if_pos k5]
    refine ⟨s2 (s := (RS.mk b.ph b.fp b.rt (b.ln + 1) b.tn b.tw b.tm b.nn b.nw)) (by unfold sR; rw [if_neg k2, if_neg k3, if_neg k7, if_neg k4, if_pos k5]) (Or.inr (Or.inl rfl)) (by rw [sa.1]; exact h3) (by rw [sa.2, ← h4]), ?_, ?_, ?_⟩
    · intro n q; left; rw [n1, ← h4, ← n0]; exact q
    · intro n q; rw [cE_no (by omega)] at q; exact (nmem n q).elim
    · intro n q; rw [zE_n (by omega)] at q; exact (nmem n q).elim
  by_cases k1 : e.1 = 1
  · have sa : (uR a e).rt = a.rt ∧ (uR a e).ln = a.ln := by
      show (sR a e).rt = a.rt ∧ (sR a e).ln = a.ln
      have : sR a e = a := by unfold sR; rw [if_neg k2, if_neg k3, if_neg k7, if_neg k4, if_neg k5, if_pos k1]
      rw [this]; exact ⟨rfl, rfl⟩
    have fr : ∀ w q, fndR b w q ↔ fndR f w q := fun w q => by unfold fndR; rw [h8, h9]
    have fx : ∀ w, (∃ q, fndR b w q) ↔ ∃ q, fndR f w q := fun w => ⟨fun ⟨q, z⟩ => ⟨q, (fr w q).mp z⟩, fun ⟨q, z⟩ => ⟨q, (fr w q).mpr z⟩⟩
    have fy : (∃ q, fndR b e.2.2.2 q ∧ e.2.2.1 ≠ b.tm q) ↔ ∃ q, fndR f e.2.2.2 q ∧ e.2.2.1 ≠ f.tm q := ⟨fun ⟨q, z, y⟩ => ⟨q, (fr _ q).mp z, by rw [← h10]; exact y⟩, fun ⟨q, z, y⟩ => ⟨q, (fr _ q).mpr z, by rw [h10]; exact y⟩⟩
    have n0 : nRf b e = cE f e := by
      unfold nRf nCl cE
      rw [if_neg k2, if_neg k3, if_neg k7, if_neg k4, if_neg k5, if_pos k1, ifP_t h2, ifP_t k1]
      by_cases z : ∃ q, fndR f e.2.2.2 q
      · rw [ifP_t z, ifP_t ((fx _).mpr z)]
        by_cases y : ∃ q, fndR f e.2.2.2 q ∧ e.2.2.1 ≠ f.tm q
        · rw [ifP_t y, ifP_t (fy.mpr y)]
        · rw [ifP_f y, ifP_f (fun q => y (fy.mp q))]
      · rw [ifP_f z, ifP_f (fun q => z ((fx _).mp q))]
    refine ⟨s2 (s := b) (by unfold sR; rw [if_neg k2, if_neg k3, if_neg k7, if_neg k4, if_neg k5, if_pos k1]) (Or.inl rfl) (by rw [sa.1]; exact h3) (by rw [sa.2]; exact h4), ?_, ?_, ?_⟩
    · intro n q; rw [n0] at q; exact Or.inr (Or.inl q)
    · intro n q; rw [n0]; exact q
    · intro n q; rw [zE_n (by omega)] at q; exact (nmem n q).elim
  by_cases k0 : e.1 = 0
  · have sa : (uR a e).rt = a.rt + 1 ∧ (uR a e).ln = a.ln := by
      show (sR a e).rt = a.rt + 1 ∧ (sR a e).ln = a.ln
      have : sR a e = (RS.mk a.ph a.fp (a.rt + 1) a.ln a.tn a.tw a.tm a.nn a.nw) := by unfold sR; rw [if_neg k2, if_neg k3, if_neg k7, if_neg k4, if_neg k5, if_neg k1, if_pos k0]
      rw [this]; exact ⟨rfl, rfl⟩
    have n0 : nRf b e = ifP (b.ph = 2 ∧ 120 < e.2.2.1) [(e.2.1, 5)] [] := by unfold nRf; rw [if_neg k2, if_neg k3, if_neg k7, if_neg k4, if_neg k5, if_neg k1, if_pos k0]
    refine ⟨s2 (s := (RS.mk b.ph b.fp (b.rt + 1) b.ln b.tn b.tw b.tm b.nn b.nw)) (by unfold sR; rw [if_neg k2, if_neg k3, if_neg k7, if_neg k4, if_neg k5, if_neg k1, if_pos k0]) (Or.inr (Or.inr rfl)) (by rw [sa.1, ← h3]) (by rw [sa.2]; exact h4), ?_, ?_, ?_⟩
    · intro n q; rw [n0] at q
      obtain ⟨u, v⟩ := mem_if q
      right; right; rw [v]; exact mem_ift ⟨k0, u.2⟩
    · intro n q; rw [cE_no (by omega)] at q; exact (nmem n q).elim
    · intro n q
      obtain ⟨u, v⟩ := mem_if q
      rw [n0, v]; exact mem_ift ⟨h2, u.2⟩
  · have sa : (uR a e).rt = a.rt ∧ (uR a e).ln = a.ln := by
      show (sR a e).rt = a.rt ∧ (sR a e).ln = a.ln
      have : sR a e = a := by unfold sR; rw [if_neg k2, if_neg k3, if_neg k7, if_neg k4, if_neg k5, if_neg k1, if_neg k0]
      rw [this]; exact ⟨rfl, rfl⟩
    have n0 : nRf b e = [] := by unfold nRf; rw [if_neg k2, if_neg k3, if_neg k7, if_neg k4, if_neg k5, if_neg k1, if_neg k0]
    refine ⟨s2 (s := b) (by unfold sR; rw [if_neg k2, if_neg k3, if_neg k7, if_neg k4, if_neg k5, if_neg k1, if_neg k0]) (Or.inl rfl) (by rw [sa.1]; exact h3) (by rw [sa.2]; exact h4), ?_, ?_, ?_⟩
    · intro n q; rw [n0] at q; exact (nmem n q).elim
    · intro n q; rw [cE_no k1] at q; exact (nmem n q).elim
    · intro n q; rw [zE_n k0] at q; exact (nmem n q).elim
theorem K2.run : ∀ (es : List EW) {a f b : RS}, K2 a f b → es.foldl uR a = f → (∀ n ∈ NR b es, n ∈ NR a es ∨ n ∈ cEs f es ∨ n ∈ zs es) ∧ (∀ n ∈ cEs f es, n ∈ NR b es) ∧ (∀ n ∈ zs es, n ∈ NR b es) ∧ (es.foldl uR b).rt = f.rt
  | [], a, f, b, h, e => by
    have e : a = f := e
    refine ⟨fun n q => ?_, fun n q => q, fun n q => q, ?_⟩
    · exact Or.inl q
    · show b.rt = f.rt
      rw [← e]; exact h.2.2.1
  | e :: es, a, f, b, h, g => by
    have g : es.foldl uR (uR a e) = f := g
    have m := uR_m (e := e) h.2.2.2.2.1 h.2.2.2.2.2.1
    have hf : NML (uR a e) f := by rw [← g]; exact fold_m es m.2.2.1 m.2.1
    obtain ⟨k, x, y, z⟩ := h.step (e := e) hf
    obtain ⟨x2, y2, z2, w2⟩ := K2.run es k g
    refine ⟨fun n q => ?_, fun n q => ?_, fun n q => ?_, w2⟩
    · rcases List.mem_append.mp q with q | q
      · rcases x n q with q | q | q
        · exact Or.inl (List.mem_append.mpr (Or.inl q))
        · exact Or.inr (Or.inl (List.mem_append.mpr (Or.inl q)))
        · exact Or.inr (Or.inr (List.mem_append.mpr (Or.inl q)))
      · rcases x2 n q with q | q | q
        · exact Or.inl (List.mem_append.mpr (Or.inr q))
        · exact Or.inr (Or.inl (List.mem_append.mpr (Or.inr q)))
        · exact Or.inr (Or.inr (List.mem_append.mpr (Or.inr q)))
    · rcases List.mem_append.mp q with q | q
      · exact List.mem_append.mpr (Or.inl (y n q))
      · exact List.mem_append.mpr (Or.inr (y2 n q))
    · rcases List.mem_append.mp q with q | q
      · exact List.mem_append.mpr (Or.inl (z n q))
      · exact List.mem_append.mpr (Or.inr (z2 n q))
theorem LST.run : ∀ (es : List EW) {r : RS} {N : List NT}, LST N r.fp → LST (N ++ NR r es) (es.foldl uR r).fp
  | [], r, N, h => by show LST (N ++ []) r.fp; rw [List.append_nil]; exact h
  | e :: es, r, N, h => by
    have q := LST.run es (r := uR r e) (LST.fold _ h (pos_R r e))
    rw [List.append_assoc] at q
    exact q
noncomputable def cS (c : CS) (i : Int) : List NT := ifP (∃ q, 0 ≤ q ∧ q < c.rn ∧ c.rk q = c.ck i ∧ ∀ j, 0 ≤ j → j < q → c.rk j ≠ c.ck i) (ifP (∃ q, (0 ≤ q ∧ q < c.rn ∧ c.rk q = c.ck i ∧ ∀ j, 0 ≤ j → j < q → c.rk j ≠ c.ck i) ∧ c.rp q ≠ c.cc i) [(c.cp i, 4)] []) [(c.cp i, 3)]
noncomputable def cSs (c : CS) : Nat → List NT
  | 0 => []
  | n + 1 => cSs c n ++ cS c n
def cls1 : List EW → List EW
  | [] => []
  | e :: es => if e.1 = 1 then e :: cls1 es else cls1 es
def CLS (c : CS) (L : List EW) : Prop := c.cn = (L.length : Int) ∧ ∀ (i : Nat) (e : EW), L[i]? = some e → c.ck i = e.2.2.2 ∧ c.cp i = e.2.1 ∧ c.cc i = e.2.2.1
theorem CLS.step {c : CS} {L : List EW} {e : EW} (h : CLS c L) : CLS (uC c e) (L ++ cls1 [e]) := by
  have sq := sCn_q c e.2.2.2
  have keep : (sC c e).cn = c.cn → (sC c e).ck = c.ck → (sC c e).cp = c.cp → (sC c e).cc = c.cc → e.1 ≠ 1 → CLS (uC c e) (L ++ cls1 [e]) := fun a b d f g => by
    have e0 : cls1 [e] = [] := by show (if e.1 = 1 then _ else _) = _; rw [if_neg g]; rfl
    rw [e0, List.append_nil]
    refine ⟨a.trans h.1, fun i x q => ?_⟩
    show (sC c e).ck i = _ ∧ (sC c e).cp i = _ ∧ (sC c e).cc i = _
    rw [b, d, f]; exact h.2 i x q
  by_cases k2 : e.1 = 2
  · have sc : sC c e = (CS.mk c.fp (c.rn + 1) (up1 c.rk c.rn e.2.2.2) (up1 c.rp c.rn 0) c.cn c.ck c.cp c.cc 0 c.nk c.m) := by unfold sC; rw [if_pos k2]
    exact keep (by rw [sc]) (by rw [sc]) (by rw [sc]) (by rw [sc]) (by omega)
  by_cases k3 : e.1 = 3
  · have sc : sC c e = (CS.mk (sCn c e.2.2.2).fp (sCn c e.2.2.2).rn (sCn c e.2.2.2).rk (up1 c.rp (c.rn - 1) (e.2.2.1 + 1)) (sCn c e.2.2.2).cn (sCn c e.2.2.2).ck (sCn c e.2.2.2).cp (sCn c e.2.2.2).cc (sCn c e.2.2.2).nn (sCn c e.2.2.2).nk (sCn c e.2.2.2).m) := by unfold sC; rw [if_neg k2, if_pos k3]
    exact keep (by rw [sc]; exact sq.2.2.2.1) (by rw [sc]; exact sq.2.2.2.2.1) (by rw [sc]; exact sq.2.2.2.2.2.1) (by rw [sc]; exact sq.2.2.2.2.2.2.1) (by omega)
  by_cases k7 : e.1 = 7
  · have sc : sC c e = c := by unfold sC; rw [if_neg k2, if_neg k3, if_pos k7]
    exact keep (by rw [sc]) (by rw [sc]) (by rw [sc]) (by rw [sc]) (by omega)
  by_cases k4 : e.1 = 4
  · have sc : sC c e = sCn c e.2.2.2 := by unfold sC; rw [if_neg k2, if_neg k3, if_neg k7, if_pos k4]
    exact keep (by rw [sc]; exact sq.2.2.2.1) (by rw [sc]; exact sq.2.2.2.2.1) (by rw [sc]; exact sq.2.2.2.2.2.1) (by rw [sc]; exact sq.2.2.2.2.2.2.1) (by omega)
  by_cases k5 : e.1 = 5
  · have sc : sC c e = (CS.mk c.fp c.rn c.rk c.rp c.cn c.ck c.cp c.cc c.nn c.nk (c.m + 1)) := by unfold sC; rw [if_neg k2, if_neg k3, if_neg k7, if_neg k4, if_pos k5]
    exact keep (by rw [sc]) (by rw [sc]) (by rw [sc]) (by rw [sc]) (by omega)
  by_cases k1 : e.1 = 1
  · have sc : sC c e = (CS.mk c.fp c.rn c.rk c.rp (c.cn + 1) (up1 c.ck c.cn e.2.2.2) (up1 c.cp c.cn e.2.1) (up1 c.cc c.cn e.2.2.1) c.nn c.nk c.m) := by unfold sC; rw [if_neg k2, if_neg k3, if_neg k7, if_neg k4, if_neg k5, if_pos k1]
    have e0 : cls1 [e] = [e] := by show (if e.1 = 1 then _ else _) = _; rw [if_pos k1]; rfl
    rw [e0]
    refine ⟨?_, fun i x q => ?_⟩
    · show (sC c e).cn = _
      rw [sc, List.length_append, Int.natCast_add, ← h.1]; rfl
    · show (sC c e).ck i = _ ∧ (sC c e).cp i = _ ∧ (sC c e).cc i = _
      rw [sc]
      show up1 c.ck c.cn e.2.2.2 i = _ ∧ up1 c.cp c.cn e.2.1 i = _ ∧ up1 c.cc c.cn e.2.2.1 i = _
      rw [h.1]
      by_cases z : i < L.length
      · rw [List.getElem?_append_left z] at q
        rw [up1_ne (by omega), up1_ne (by omega), up1_ne (by omega)]
        exact h.2 i x q
      · rw [List.getElem?_append_right (by omega)] at q
        have z2 : i = L.length := by
          by_cases y : i - L.length = 0
          · omega
          · rw [List.getElem?_eq_none (by simp; omega)] at q; exact absurd q (by simp)
        rw [z2, Nat.sub_self] at q
        have q : e = x := by simpa using q
        rw [z2, up1_eq, up1_eq, up1_eq, q]; exact ⟨rfl, rfl, rfl⟩
  · have sc : sC c e = c := by unfold sC; rw [if_neg k2, if_neg k3, if_neg k7, if_neg k4, if_neg k5, if_neg k1]
    exact keep (by rw [sc]) (by rw [sc]) (by rw [sc]) (by rw [sc]) k1
theorem CLS.run : ∀ (es : List EW) {c : CS} {L : List EW}, CLS c L → CLS (es.foldl uC c) (L ++ cls1 es)
  | [], c, L, h => by show CLS c (L ++ []); rw [List.append_nil]; exact h
  | e :: es, c, L, h => by
    have q := CLS.run es (h.step (e := e))
    have x : L ++ cls1 [e] ++ cls1 es = L ++ cls1 (e :: es) := by
      rw [List.append_assoc]
      congr 1
      show (if e.1 = 1 then e :: cls1 [] else cls1 []) ++ cls1 es = if e.1 = 1 then e :: cls1 es else cls1 es
      by_cases z : e.1 = 1
      · rw [if_pos z, if_pos z]; rfl
      · rw [if_neg z, if_neg z]; rfl
    rw [x] at q
    exact q
theorem cls1_mem : ∀ (es : List EW) {e : EW}, e ∈ cls1 es ↔ e ∈ es ∧ e.1 = 1
  | [], e => by show e ∈ ([] : List EW) ↔ _; simp
  | x :: es, e => by
    show e ∈ (if x.1 = 1 then x :: cls1 es else cls1 es) ↔ _
    by_cases z : x.1 = 1
    · rw [if_pos z, List.mem_cons, List.mem_cons, cls1_mem es]
      constructor
      · rintro (rfl | h)
        · exact ⟨Or.inl rfl, z⟩
        · exact ⟨Or.inr h.1, h.2⟩
      · rintro ⟨rfl | h, w⟩
        · exact Or.inl rfl
        · exact Or.inr ⟨h, w⟩
    · rw [if_neg z, List.mem_cons, cls1_mem es]
      constructor
      · rintro h; exact ⟨Or.inr h.1, h.2⟩
      · rintro ⟨rfl | h, w⟩
        · exact absurd w z
        · exact ⟨h, w⟩
theorem cEs_mem {f : RS} : ∀ (es : List EW) {n : NT}, n ∈ cEs f es ↔ ∃ e ∈ es, n ∈ cE f e
  | [], n => by show n ∈ ([] : List NT) ↔ _; simp
  | e :: es, n => by
    show n ∈ cE f e ++ cEs f es ↔ _
    rw [List.mem_append, cEs_mem es]
    constructor
    · rintro (h | ⟨x, a, b⟩)
      · exact ⟨e, List.mem_cons_self, h⟩
      · exact ⟨x, List.mem_cons_of_mem _ a, b⟩
    · rintro ⟨x, a, b⟩
      rcases List.mem_cons.mp a with a | a
      · rw [← a]; exact Or.inl b
      · exact Or.inr ⟨x, a, b⟩
theorem cSs_mem {c : CS} : ∀ (k : Nat) {n : NT}, n ∈ cSs c k ↔ ∃ i : Nat, i < k ∧ n ∈ cS c i
  | 0, n => by
    show n ∈ ([] : List NT) ↔ _
    constructor
    · intro h; simp at h
    · rintro ⟨i, a, -⟩; omega
  | k + 1, n => by
    show n ∈ cSs c k ++ cS c k ↔ _
    rw [List.mem_append, cSs_mem k]
    constructor
    · rintro (⟨i, a, b⟩ | h)
      · exact ⟨i, by omega, b⟩
      · exact ⟨k, by omega, h⟩
    · rintro ⟨i, a, b⟩
      by_cases z : i = k
      · rw [z] at b; exact Or.inr b
      · exact Or.inl ⟨i, by omega, b⟩
def RAL (f : RS) (c : CS) : Prop := f.tn = c.rn ∧ (∀ j, 0 ≤ j → j < c.rn → f.tw j = c.rk j) ∧ ∀ j, 0 ≤ j → j < c.rn → f.tm j = c.rp j
theorem RAL.fnd {f : RS} {c : CS} {w : Int64} {q : Int} (h : RAL f c) : fndR f w q ↔ (0 ≤ q ∧ q < c.rn ∧ c.rk q = w ∧ ∀ j, 0 ≤ j → j < q → c.rk j ≠ w) := by
  unfold fndR
  rw [h.1]
  constructor
  · rintro ⟨a, b, d, e⟩
    exact ⟨a, b, by rw [← h.2.1 q a b]; exact d, fun j x y => by rw [← h.2.1 j x (by omega)]; exact e j x y⟩
  · rintro ⟨a, b, d, e⟩
    exact ⟨a, b, by rw [h.2.1 q a b]; exact d, fun j x y => by rw [h.2.1 j x (by omega)]; exact e j x y⟩
theorem RAL.eq {f : RS} {c : CS} {e : EW} {i : Int} (h : RAL f c) (k : e.1 = 1) (a : c.ck i = e.2.2.2) (b : c.cp i = e.2.1) (d : c.cc i = e.2.2.1) : cE f e = cS c i := by
  unfold cE cS
  rw [ifP_t k, a, b, d]
  have x : (∃ q, fndR f e.2.2.2 q) ↔ ∃ q, 0 ≤ q ∧ q < c.rn ∧ c.rk q = e.2.2.2 ∧ ∀ j, 0 ≤ j → j < q → c.rk j ≠ e.2.2.2 := ⟨fun ⟨q, z⟩ => ⟨q, h.fnd.mp z⟩, fun ⟨q, z⟩ => ⟨q, h.fnd.mpr z⟩⟩
  have y : (∃ q, fndR f e.2.2.2 q ∧ e.2.2.1 ≠ f.tm q) ↔ ∃ q, (0 ≤ q ∧ q < c.rn ∧ c.rk q = e.2.2.2 ∧ ∀ j, 0 ≤ j → j < q → c.rk j ≠ e.2.2.2) ∧ c.rp q ≠ e.2.2.1 := by
    constructor
    · rintro ⟨q, z, u⟩
      have w := h.fnd.mp z
      exact ⟨q, w, fun v => u (by rw [h.2.2 q w.1 w.2.1]; exact v.symm)⟩
    · rintro ⟨q, w, u⟩
      exact ⟨q, h.fnd.mpr w, fun v => u (by rw [h.2.2 q w.1 w.2.1] at v; exact v.symm)⟩
  by_cases z : ∃ q, fndR f e.2.2.2 q
  · rw [ifP_t z, ifP_t (x.mp z)]
    by_cases u : ∃ q, fndR f e.2.2.2 q ∧ e.2.2.1 ≠ f.tm q
    · rw [ifP_t u, ifP_t (y.mp u)]
    · rw [ifP_f u, ifP_f (fun v => u (y.mpr v))]
  · rw [ifP_f z, ifP_f (fun v => z (x.mpr v))]
theorem pos_cS (c : CS) (i : Int) : POS (cS c i) := pos_ifL (pos_if (by omega)) (fun n q => by rw [List.mem_singleton.mp q]; show (0 : Int) < 3; omega)
theorem pos_cSs (c : CS) : ∀ k, POS (cSs c k)
  | 0 => POS.nil
  | k + 1 => (pos_cSs c k).app (pos_cS c k)
theorem RAL.mem {f : RS} {c : CS} {es : List EW} (h : RAL f c) (g : CLS c (cls1 es)) {n : NT} : n ∈ cEs f es ↔ n ∈ cSs c c.cn.toNat := by
  rw [cEs_mem, cSs_mem]
  have hl : c.cn.toNat = (cls1 es).length := by rw [g.1]; rfl
  constructor
  · rintro ⟨e, a, b⟩
    have k : e.1 = 1 := Classical.byContradiction fun q => by rw [cE_no q] at b; simp at b
    obtain ⟨i, hi⟩ := List.mem_iff_getElem?.mp ((cls1_mem es).mpr ⟨a, k⟩)
    obtain ⟨x, y, z⟩ := g.2 i e hi
    refine ⟨i, ?_, by rw [← h.eq k x y z]; exact b⟩
    rw [hl]
    exact Classical.byContradiction fun q => by rw [List.getElem?_eq_none (by omega)] at hi; simp at hi
  · rintro ⟨i, a, b⟩
    rw [hl] at a
    have hi := List.getElem?_eq_getElem a
    obtain ⟨x, y, z⟩ := g.2 i _ hi
    have m := (cls1_mem es).mp (List.getElem_mem a)
    exact ⟨_, m.1, by rw [h.eq m.2 x y z]; exact b⟩
theorem READERS {es : List EW} {r b : RS} {c : CS} (s : SHP es 0 0 0) (r1 : r.ph = 1) (r2 : r.fp = (0, -1)) (r3 : r.rt = 0) (r4 : r.ln = 0) (r5 : r.tn = 0) (r6 : ∀ k, 0 ≤ k → k < 6 → r.nn k = 0) (c1 : c.fp = (0, -1)) (c2 : c.rn = 0) (c3 : c.cn = 0) (c4 : 0 ≤ c.nn ∧ c.nn ≤ 12) (c5 : c.m = 0) (b1 : b.ph = 2) (b2 : b.fp = (es.foldl uR r).fp) (b3 : b.rt = 0) (b4 : b.ln = 0) (b5 : b.tn = (es.foldl uR r).tn) (b6 : b.tw = (es.foldl uR r).tw) (b7 : b.tm = (es.foldl uR r).tm) (b8 : b.nn = (es.foldl uR r).nn) (b9 : b.nw = (es.foldl uR r).nw) :
    (es.foldl uR b).fp = cnts (cSs (es.foldl uC c) (es.foldl uC c).cn.toNat) (es.foldl uC c).fp ∧ (es.foldl uR b).rt = (es.foldl uC c).rn := by
  have k0 : K1 r c [] [] [] 0 0 0 := by
    refine ⟨r1, by rw [r2]; exact LST.nil, by rw [c1]; exact LST.nil, DMN.nil, DMN.nil, fun n q => q, by rw [r3]; exact Int.le_refl _, by rw [r5, c2], Or.inl ⟨rfl, by rw [c2, r3]⟩, fun j x y => by rw [c2] at y; omega, fun j x y => by rw [c2] at y; omega, fun q => by omega, by rw [r4, c5], fun q => absurd rfl q, c4, fun k x y => r6 k (by rw [r3] at x; omega) y, fun q => by rw [c2] at q; omega, fun q => by rw [c5] at q; omega, fun q => by omega⟩
  obtain ⟨pc, lo, k⟩ := K1.run es k0 s
  rw [List.nil_append, List.nil_append, List.nil_append] at k
  have nb : NBD r := fun j x y => by rw [r6 j x y]; omega
  have h2 : K2 r (es.foldl uR r) b := ⟨r1, b1, by rw [b3, r3], by rw [b4, r4], by rw [r3]; exact Int.le_refl _, nb, fold_m es (by rw [r3]; exact Int.le_refl _) nb, b5, b6, b7, b8, b9⟩
  obtain ⟨x, y, z, w⟩ := h2.run es rfl
  have ral : RAL (es.foldl uR r) (es.foldl uC c) := ⟨k.tn, k.tw, fun j p q => k.tm j p (Or.inr ⟨q, by omega⟩)⟩
  have cl := CLS.run es (c := c) (L := []) ⟨c3, fun i e q => by simp at q⟩
  rw [List.nil_append] at cl
  have l1 := LST.run es (r := b) (N := NR r es) (by rw [b2]; exact k.l1)
  have l2 := LST.fold (cSs (es.foldl uC c) (es.foldl uC c).cn.toNat) k.l2 (pos_cSs _ _)
  refine ⟨LST.eq l1 l2 (DMN.app ?_ ?_) (DMN.app ?_ ?_), ?_⟩
  · exact k.d1.mono (fun m q => List.mem_append.mpr (Or.inl q))
  · intro n q
    rcases x n q with q | q | q
    · exact (k.d1.mono (fun m q => List.mem_append.mpr (Or.inl q))) n q
    · exact ⟨n, List.mem_append.mpr (Or.inr ((ral.mem cl).mp q)), LE2.rfl⟩
    · exact ⟨n, List.mem_append.mpr (Or.inl (k.dz n q)), LE2.rfl⟩
  · exact k.d2.mono (fun m q => (List.mem_append.mp q).elim (fun q => List.mem_append.mpr (Or.inl q)) (fun q => List.mem_append.mpr (Or.inr (z m q))))
  · intro n q
    exact ⟨n, List.mem_append.mpr (Or.inr (y n ((ral.mem cl).mpr q))), LE2.rfl⟩
  · rw [w]
    rcases k.rt with q | q
    · exact q.2.symm
    · exact absurd rfl q.1
end
section
theorem wsk_ge {s : Int → Int} : ∀ (f : Nat) (n : Int), n ≤ wsk s f n
  | 0, n => Int.le_refl n
  | f + 1, n => by
    show n ≤ (if s n = 10 ∨ s n = 32 then wsk s f (n + 1) else n)
    by_cases c : s n = 10 ∨ s n = 32
    · rw [if_pos c]; have := wsk_ge (s := s) f (n + 1); omega
    · rw [if_neg c]; exact Int.le_refl _
theorem ltk_ge {s : Int → Int} : ∀ (f : Nat) (n : Int) (w : Int64) (c : Int), n ≤ (ltk s f n w c).1
  | 0, n, _, _ => Int.le_refl n
  | f + 1, n, w, c => by
    show n ≤ (if 97 ≤ s n ∧ s n ≤ 122 then ltk s f (n + 1) (shw w (s n)) (c + 1) else (n, w, c)).1
    by_cases q : 97 ≤ s n ∧ s n ≤ 122
    · rw [if_pos q]; have := ltk_ge (s := s) f (n + 1) (shw w (s n)) (c + 1); omega
    · rw [if_neg q]; exact Int.le_refl _
theorem dgk_ge {s : Int → Int} : ∀ (f : Nat) (n v c : Int), n ≤ (dgk s f n v c).1
  | 0, n, _, _ => Int.le_refl n
  | f + 1, n, v, c => by
    show n ≤ (if 48 ≤ s n ∧ s n ≤ 57 then dgk s f (n + 1) (dgv v c (s n)) (c + 1) else (n, v, c)).1
    by_cases q : 48 ≤ s n ∧ s n ≤ 57
    · rw [if_pos q]; have := dgk_ge (s := s) f (n + 1) (dgv v c (s n)) (c + 1); omega
    · rw [if_neg q]; exact Int.le_refl _
theorem ltp_gt {s : Int → Int} {n c : Int} {w : Int64} (h : n < 1300) (q : 97 ≤ s n ∧ s n ≤ 122) : n < (ltp s n w c).1 := by
  rw [ltp_s h q]
  have : n + 1 ≤ (ltp s (n + 1) (shw w (s n)) (c + 1)).1 := ltk_ge _ _ _ _
  omega
theorem dgp_gt {s : Int → Int} {n v c : Int} (h : n < 1300) (q : 48 ≤ s n ∧ s n ≤ 57) : n < (dgp s n v c).1 := by
  rw [dgp_s h q]
  have : n + 1 ≤ (dgp s (n + 1) (dgv v c (s n)) (c + 1)).1 := dgk_ge _ _ _ _
  omega
def TKW (t : TK) : Prop := t.1 ≤ t.2.1 ∧ (t.2.2.1 ≠ 0 → t.1 < t.2.1)
def SEN (s : Int → Int) : Prop := ∀ k, 1300 ≤ k → s k < 0
theorem advP_w {s : Int → Int} (hs : SEN s) (p : Int) : (advP s p).1 = p ∧ TKW (advP s p) := by
  unfold advP TKW
  by_cases c0 : s p < 0
  · rw [if_pos c0]; exact ⟨rfl, Int.le_refl _, fun q => absurd rfl q⟩
  · have hp : p < 1300 := Classical.byContradiction fun z => c0 (hs p (by omega))
    rw [if_neg c0]
    by_cases c1 : 97 ≤ s p ∧ s p ≤ 122
    · rw [if_pos c1]
      have g := ltp_gt (w := 0) (c := 0) hp c1
      exact ⟨rfl, by show p ≤ (ltp s p 0 0).1; omega, fun _ => g⟩
    · rw [if_neg c1]
      by_cases c2 : 48 ≤ s p ∧ s p ≤ 57
      · rw [if_pos c2]
        have g := dgp_gt (v := 0) (c := 0) hp c2
        exact ⟨rfl, by show p ≤ (dgp s p 0 0).1; omega, fun _ => g⟩
      · rw [if_neg c2]
        exact ⟨rfl, by show p ≤ p + 1; omega, fun _ => by show p < p + 1; omega⟩
theorem advT_w {s : Int → Int} (hs : SEN s) (n : Int) : n ≤ (advT s n).1 ∧ TKW (advT s n) := by
  have h := advP_w hs (wsp s n)
  have g : n ≤ wsp s n := wsk_ge _ _
  exact ⟨by show n ≤ (advP s (wsp s n)).1; rw [h.1]; exact g, h.2⟩
theorem adv_ok {s : Int → Int} {t : TK} (hs : SEN s) (hw : TKW t) : TKW (advT s t.2.1) ∧ t.1 ≤ (advT s t.2.1).1 := by
  have h := advT_w hs t.2.1
  exact ⟨h.2, by have := h.1; have := hw.1; omega⟩
abbrev NTg (y : Nat) : Prop := y < 30 ∨ (36 < y ∧ y ≠ 999)
theorem ntg {l : List Nat} (h : l.all (fun y => decide (NTg y)) = true) : ∀ y ∈ l, NTg y := fun y q => of_decide_eq_true (List.all_eq_true.mp h y q)
theorem stk_body {s : Int → Int} {k : Nat} {t : TK} {x : Int × Int × Int} {q : QR} {r : List Nat × TK × (Int × Int × Int) × QR × List EV} (hs : SEN s) (hk : NTg k) (hw : TKW t) (h : stk s k t x q = some r) : (∀ y ∈ r.1, NTg y) ∧ TKW r.2.1 ∧ t.1 ≤ r.2.1.1 := by
  have ao := adv_ok hs hw
  unfold stk at h
  split at h
  all_goals (try (exact absurd hk (by decide)))
  all_goals (repeat' split at h)
  all_goals (cases h)
  all_goals first
    | exact ⟨ntg rfl, ao.1, ao.2⟩
    | exact ⟨ntg rfl, hw, Int.le_refl _⟩
    | exact ⟨ntg rfl, ⟨hw.1, fun _ => hw.2 (by rename_i u _ _; rw [u.1]; decide)⟩, Int.le_refl _⟩
theorem evk_body {k : Nat} {t : TK} {x : Int × Int × Int} {q : QR} (hk : NTg k) : evk k t x q = [] ∨ ∃ e, evk k t x q = [e] ∧ ((e.1 = 4 ∨ e.1 = 5) ∧ e.2.1 = t.1 ∨ e.1 = 1) := by
  unfold evk
  split
  all_goals (try (exact absurd hk (by decide)))
  · by_cases c : nam t
    · rw [if_pos c]; exact Or.inr ⟨_, rfl, Or.inl ⟨Or.inl rfl, rfl⟩⟩
    · rw [if_neg c]; exact Or.inl rfl
  · exact Or.inr ⟨_, rfl, Or.inl ⟨Or.inr rfl, rfl⟩⟩
  · exact Or.inr ⟨_, rfl, Or.inl ⟨Or.inl rfl, rfl⟩⟩
  · exact Or.inr ⟨_, rfl, Or.inr rfl⟩
  · exact Or.inl rfl
def KSH (K : List Nat) (md : Nat) : Prop := (md = 0 ∧ (K = [] ∨ K = [36] ∨ K = [30, 36])) ∨ (md = 1 ∧ (K = [140, 31, 36] ∨ K = [31, 36] ∨ K = [32, 36] ∨ K = [33, 36])) ∨ (md = 2 ∧ ∃ p x, K = p ++ [x, 36] ∧ (x = 34 ∨ x = 35) ∧ ∀ y ∈ p, NTg y)
theorem itr_fF {s : Int → Int} (n : Nat) : itr s n pF = pF := itr_fix (stp_pF s) n
theorem stp_some {s : Int → Int} {k : Nat} {K : List Nat} {t : TK} {x : Int × Int × Int} {q : QR} {ρ : List EV} {r : List Nat × TK × (Int × Int × Int) × QR × List EV} (h : stk s k t x q = some r) : stp s (k :: K, t, x, q, ρ) = (r.1 ++ K, r.2.1, r.2.2.1, r.2.2.2.1, ρ ++ r.2.2.2.2) := by
  show (match stk s k t x q with | none => pF | some r => (r.1 ++ K, r.2.1, r.2.2.1, r.2.2.2.1, ρ ++ r.2.2.2.2)) = _
  rw [h]
theorem stp_none {s : Int → Int} {k : Nat} {K : List Nat} {t : TK} {x : Int × Int × Int} {q : QR} {ρ : List EV} (h : stk s k t x q = none) : stp s (k :: K, t, x, q, ρ) = pF := by
  show (match stk s k t x q with | none => pF | some r => (r.1 ++ K, r.2.1, r.2.2.1, r.2.2.2.1, ρ ++ r.2.2.2.2)) = _
  rw [h]
theorem shape {s : Int → Int} (hs : SEN s) : ∀ (n : Nat) {K : List Nat} {t : TK} {x : Int × Int × Int} {q : QR} {ρ : List EV} {md : Nat} {pc lo : Int} {b : PCf}, KSH K md → TKW t → lo ≤ t.1 → (md = 1 → pc = q.2.2.2.1) → itr s n (K, t, x, q, ρ) = b → b.1 = [] → SHP (evs s n (K, t, x, q, ρ)) md pc lo
  | 0, K, t, x, q, ρ, md, pc, lo, b, hk, hw, hl, hp, hi, hb => by
    have e : K = [] := by have : (K, t, x, q, ρ) = b := hi; rw [← this] at hb; exact hb
    show md = 0
    rcases hk with ⟨h, -⟩ | ⟨-, h⟩ | ⟨-, p, y, h, -⟩
    · exact h
    · rw [e] at h; simp at h
    · rw [e] at h; simp at h
  | n + 1, K, t, x, q, ρ, md, pc, lo, b, hk, hw, hl, hp, hi, hb => by
    have hi : itr s n (stp s (K, t, x, q, ρ)) = b := hi
    have nf : stp s (K, t, x, q, ρ) ≠ pF := fun e => by
      rw [e, itr_fF] at hi
      rw [← hi] at hb
      exact absurd hb (by decide)
    show SHP (evt s (K, t, x, q, ρ) ++ evs s n (stp s (K, t, x, q, ρ))) md pc lo
    have one : ∀ {k : Nat} {K' : List Nat}, K = k :: K' → ∃ r, stk s k t x q = some r := fun {k K'} e => by
      cases h : stk s k t x q with
      | none => exact absurd (by rw [e]; exact stp_none h) nf
      | some r => exact ⟨r, rfl⟩
    have ao := adv_ok hs hw
    rcases hk with ⟨rfl, h⟩ | ⟨rfl, h⟩ | ⟨rfl, p, y, h, hy, hN⟩
    · rcases h with rfl | rfl | rfl
      · rw [evt_nil]
        exact shape hs n (Or.inl ⟨rfl, Or.inl rfl⟩) hw hl hp hi hb
      · obtain ⟨r, hr⟩ := one rfl
        rw [stp_some hr] at hi ⊢
        rw [evt_s (by decide) hr]
        have e : evk 36 t x q = [] := rfl
        rw [e]
        have hr2 : (if t.2.2.1 = 0 then some (([] : List Nat), t, x, q, ([] : List EV)) else some ([30, 36], t, x, q, [])) = some r := hr
        by_cases c : t.2.2.1 = 0
        · rw [if_pos c] at hr2
          cases hr2
          exact shape hs n (Or.inl ⟨rfl, Or.inl rfl⟩) hw hl hp hi hb
        · rw [if_neg c] at hr2
          cases hr2
          exact shape hs n (Or.inl ⟨rfl, Or.inr (Or.inr rfl)⟩) hw hl hp hi hb
      · obtain ⟨r, hr⟩ := one rfl
        rw [stp_some hr] at hi ⊢
        rw [evt_s (by decide) hr]
        have e : evk 30 t x q = [(2, t.1, 0, t.2.2.2.2)] := rfl
        rw [e]
        have hr2 : (if nam t then some ([140, 31], advT s t.2.1, x, (q.1, q.2.1, q.2.2.1, 0, t.1), ([] : List EV)) else none) = some r := hr
        by_cases c : nam t
        · rw [if_pos c] at hr2
          cases hr2
          have tw := hw.2 (by rw [c.1]; decide)
          have av := advT_w hs t.2.1
          exact Or.inl ⟨rfl, rfl, hl, shape hs n (Or.inr (Or.inl ⟨rfl, Or.inl rfl⟩)) ao.1 (by show t.1 + 1 ≤ (advT s t.2.1).1; have := av.1; omega) (fun _ => rfl) hi hb⟩
        · rw [if_neg c] at hr2
          cases hr2
    · rcases h with rfl | rfl | rfl | rfl
      · obtain ⟨r, hr⟩ := one rfl
        rw [stp_some hr] at hi ⊢
        rw [evt_s (by decide) hr]
        have e : evk 140 t x q = [] := rfl
        rw [e]
        have hr2 : (if sgn t (((140 : Nat) : Int) - 100) then some (([] : List Nat), advT s t.2.1, x, q, ([] : List EV)) else none) = some r := hr
        by_cases c : sgn t (((140 : Nat) : Int) - 100)
        · rw [if_pos c] at hr2
          cases hr2
          exact shape hs n (Or.inr (Or.inl ⟨rfl, Or.inr (Or.inl rfl)⟩)) ao.1 (Int.le_trans hl ao.2) hp hi hb
        · rw [if_neg c] at hr2
          cases hr2
      · obtain ⟨r, hr⟩ := one rfl
        rw [stp_some hr] at hi ⊢
        rw [evt_s (by decide) hr]
        have e : evk 31 t x q = if sgn t 41 then [(7, 0, q.2.2.2.1, 0)] else [] := rfl
        rw [e]
        have hr2 : (if sgn t 41 then some ([141, 35], t, x, q, ([] : List EV)) else some ([32], t, x, q, [])) = some r := hr
        by_cases c : sgn t 41
        · rw [if_pos c] at hr2 ⊢
          cases hr2
          exact Or.inr (Or.inr (Or.inl ⟨rfl, rfl, (hp rfl).symm, shape hs n (Or.inr (Or.inr ⟨rfl, [141], 35, rfl, Or.inr rfl, ntg rfl⟩)) hw hl (fun z => absurd z (by decide)) hi hb⟩))
        · rw [if_neg c] at hr2 ⊢
          cases hr2
          exact shape hs n (Or.inr (Or.inl ⟨rfl, Or.inr (Or.inr (Or.inl rfl))⟩)) hw hl hp hi hb
      · obtain ⟨r, hr⟩ := one rfl
        rw [stp_some hr] at hi ⊢
        rw [evt_s (by decide) hr]
        have e : evk 32 t x q = [(3, t.1, q.2.2.2.1, t.2.2.2.2)] := rfl
        rw [e]
        have hr2 : (if nam t then some ([33], advT s t.2.1, x, (q.1, q.2.1, q.2.2.1, q.2.2.2.1 + 1, q.2.2.2.2), ([] : List EV)) else none) = some r := hr
        by_cases c : nam t
        · rw [if_pos c] at hr2
          cases hr2
          exact Or.inr (Or.inl ⟨rfl, rfl, hl, (hp rfl).symm, shape hs n (Or.inr (Or.inl ⟨rfl, Or.inr (Or.inr (Or.inr rfl))⟩)) ao.1 ao.2 (fun _ => by show pc + 1 = q.2.2.2.1 + 1; rw [hp rfl]) hi hb⟩)
        · rw [if_neg c] at hr2
          cases hr2
      · obtain ⟨r, hr⟩ := one rfl
        rw [stp_some hr] at hi ⊢
        rw [evt_s (by decide) hr]
        have e : evk 33 t x q = if sgn t 44 then [] else [(7, 0, q.2.2.2.1, 0)] := rfl
        rw [e]
        have hr2 : (if sgn t 44 then some ([32], advT s t.2.1, x, q, ([] : List EV)) else some ([141, 35], t, x, q, [])) = some r := hr
        by_cases c : sgn t 44
        · rw [if_pos c] at hr2 ⊢
          cases hr2
          exact shape hs n (Or.inr (Or.inl ⟨rfl, Or.inr (Or.inr (Or.inl rfl))⟩)) ao.1 (Int.le_trans hl ao.2) hp hi hb
        · rw [if_neg c] at hr2 ⊢
          cases hr2
          exact Or.inr (Or.inr (Or.inl ⟨rfl, rfl, (hp rfl).symm, shape hs n (Or.inr (Or.inr ⟨rfl, [141], 35, rfl, Or.inr rfl, ntg rfl⟩)) hw hl (fun z => absurd z (by decide)) hi hb⟩))
    · cases p with
      | nil =>
        rcases hy with rfl | rfl
        · subst h
          obtain ⟨r, hr⟩ := one (k := 34) (K' := [36]) rfl
          have hi : itr s n (stp s (34 :: [36], t, x, q, ρ)) = b := hi
          show SHP (evt s (34 :: [36], t, x, q, ρ) ++ evs s n (stp s (34 :: [36], t, x, q, ρ))) 2 pc lo
          rw [stp_some hr] at hi ⊢
          rw [evt_s (by decide) hr]
          have e : evk 34 t x q = [(0, q.2.2.2.2, x.2.2, 0)] := rfl
          rw [e]
          cases hr
          exact Or.inr (Or.inr (Or.inr (Or.inr (Or.inr ⟨rfl, rfl, shape hs n (Or.inl ⟨rfl, Or.inr (Or.inl rfl)⟩) hw hl (fun z => absurd z (by decide)) hi hb⟩))))
        · subst h
          obtain ⟨r, hr⟩ := one (k := 35) (K' := [36]) rfl
          have hi : itr s n (stp s (35 :: [36], t, x, q, ρ)) = b := hi
          show SHP (evt s (35 :: [36], t, x, q, ρ) ++ evs s n (stp s (35 :: [36], t, x, q, ρ))) 2 pc lo
          rw [stp_some hr] at hi ⊢
          rw [evt_s (by decide) hr]
          have e : evk 35 t x q = [] := rfl
          rw [e]
          cases hr
          exact shape hs n (Or.inr (Or.inr ⟨rfl, [28, 51], 34, rfl, Or.inl rfl, ntg rfl⟩)) hw hl (fun z => absurd z (by decide)) hi hb
      | cons k p =>
        subst h
        obtain ⟨r, hr⟩ := one (k := k) (K' := p ++ [y, 36]) rfl
        have hi : itr s n (stp s (k :: (p ++ [y, 36]), t, x, q, ρ)) = b := hi
        show SHP (evt s (k :: (p ++ [y, 36]), t, x, q, ρ) ++ evs s n (stp s (k :: (p ++ [y, 36]), t, x, q, ρ))) 2 pc lo
        have hk := hN k List.mem_cons_self
        obtain ⟨g1, g2, g3⟩ := stk_body hs hk hw hr
        rw [stp_some hr] at hi ⊢
        rw [evt_s (by omega) hr]
        have ks : KSH (r.1 ++ (p ++ [y, 36])) 2 := Or.inr (Or.inr ⟨rfl, r.1 ++ p, y, by rw [List.append_assoc], hy, fun z w => (List.mem_append.mp w).elim (g1 z) (fun w => hN z (List.mem_cons_of_mem _ w))⟩)
        rcases evk_body (t := t) (x := x) (q := q) hk with e | ⟨e, he, h4 | h1⟩
        · rw [e]
          exact shape hs n ks g2 (Int.le_trans hl g3) (fun z => absurd z (by decide)) hi hb
        · rw [he]
          exact Or.inr (Or.inr (Or.inr (Or.inl ⟨rfl, h4.1, by rw [h4.2]; exact hl, shape hs n ks g2 (by rw [h4.2]; exact g3) (fun z => absurd z (by decide)) hi hb⟩)))
        · rw [he]
          exact Or.inr (Or.inr (Or.inr (Or.inr (Or.inl ⟨rfl, h1, shape hs n ks g2 (Int.le_trans hl g3) (fun z => absurd z (by decide)) hi hb⟩))))
theorem RE.shp {s : Int → Int} {es : List EW} {x x' : Int × Int × Int} {q q' : QR} {ρ ρ' : List EV} {t' : TK} (hs : SEN s) (h : RE s ([36], advT s 0, x, q, ρ) es ([], t', x', q', ρ')) : SHP es 0 0 0 := by
  obtain ⟨n, h1, h2⟩ := h
  rw [← h2]
  have w := advT_w hs 0
  exact shape hs n (Or.inl ⟨Eq.refl _, Or.inr (Or.inl (Eq.refl _))⟩) w.2 w.1 (fun z => absurd z (by decide)) h1 (Eq.refl _)
end
section
def k5 : List Int → Int
  | [] => 0
  | b :: l => 32 * k5 l + (b - 96)
def w8 : List Int → Int
  | [] => 0
  | b :: l => 256 * w8 l + b
def LTR (l : List Int) : Prop := ∀ b ∈ l, 97 ≤ b ∧ b ≤ 122
theorem LTR.tl {b : Int} {l : List Int} (h : LTR (b :: l)) : LTR l := fun c q => h c (List.mem_cons_of_mem _ q)
theorem LTR.hd {b : Int} {l : List Int} (h : LTR (b :: l)) : 97 ≤ b ∧ b ≤ 122 := h b List.mem_cons_self
theorem k5_0 : ∀ l, LTR l → 0 ≤ k5 l
  | [], _ => Int.le_refl _
  | b :: l, h => by
    have := k5_0 l h.tl
    have := h.hd
    show 0 ≤ 32 * k5 l + (b - 96)
    omega
theorem w8_0 : ∀ l, LTR l → 0 ≤ w8 l
  | [], _ => Int.le_refl _
  | b :: l, h => by
    have := w8_0 l h.tl
    have := h.hd
    show 0 ≤ 256 * w8 l + b
    omega
theorem k5_inj : ∀ l m, LTR l → LTR m → k5 l = k5 m → l = m
  | [], [], _, _, _ => rfl
  | [], c :: m, _, h, e => by
    have := k5_0 m h.tl
    have := h.hd
    have e2 : (0 : Int) = 32 * k5 m + (c - 96) := e
    omega
  | b :: l, [], h, _, e => by
    have := k5_0 l h.tl
    have := h.hd
    have e2 : 32 * k5 l + (b - 96) = (0 : Int) := e
    omega
  | b :: l, c :: m, h, g, e => by
    have h1 := h.hd
    have h2 := g.hd
    have e2 : 32 * k5 l + (b - 96) = 32 * k5 m + (c - 96) := e
    have e3 : b = c := by omega
    have e4 : k5 l = k5 m := by omega
    rw [e3, k5_inj l m h.tl g.tl e4]
theorem w8_inj : ∀ l m, LTR l → LTR m → w8 l = w8 m → l = m
  | [], [], _, _, _ => rfl
  | [], c :: m, _, h, e => by
    have := w8_0 m h.tl
    have := h.hd
    have e2 : (0 : Int) = 256 * w8 m + c := e
    omega
  | b :: l, [], h, _, e => by
    have := w8_0 l h.tl
    have := h.hd
    have e2 : 256 * w8 l + b = (0 : Int) := e
    omega
  | b :: l, c :: m, h, g, e => by
    have h1 := h.hd
    have h2 := g.hd
    have e2 : 256 * w8 l + b = 256 * w8 m + c := e
    have e3 : b = c := by omega
    have e4 : w8 l = w8 m := by omega
    rw [e3, w8_inj l m h.tl g.tl e4]
theorem k5_b : ∀ (n : Nat) (l : List Int), LTR l → l.length ≤ n → k5 l < 32 ^ n
  | 0, [], _, _ => by show (0 : Int) < 1; decide
  | 0, _ :: _, _, h => absurd h (by simp)
  | n + 1, [], _, _ => Int.pow_pos (by decide)
  | n + 1, b :: l, h, e => by
    have i := k5_b n l h.tl (by simpa using e)
    have := h.hd
    show 32 * k5 l + (b - 96) < 32 ^ (n + 1)
    rw [Int.pow_succ]
    omega
theorem w8_b : ∀ (n : Nat) (l : List Int), LTR l → l.length ≤ n → w8 l < 256 ^ n
  | 0, [], _, _ => by show (0 : Int) < 1; decide
  | 0, _ :: _, _, h => absurd h (by simp)
  | n + 1, [], _, _ => Int.pow_pos (by decide)
  | n + 1, b :: l, h, e => by
    have i := w8_b n l h.tl (by simpa using e)
    have := h.hd
    show 256 * w8 l + b < 256 ^ (n + 1)
    rw [Int.pow_succ]
    omega
theorem kw_iff {l m : List Int} (hl : LTR l) (hm : LTR m) (h6 : l.length ≤ 6) (g6 : m.length ≤ 6) : iI (k5 l) = iI (k5 m) ↔ Int64.ofInt (w8 l) = Int64.ofInt (w8 m) := by
  have a1 := k5_0 l hl
  have a2 := k5_0 m hm
  have b1 := k5_b 6 l hl h6
  have b2 := k5_b 6 m hm g6
  have c1 := w8_0 l hl
  have c2 := w8_0 m hm
  have d1 := w8_b 6 l hl h6
  have d2 := w8_b 6 m hm g6
  rw [show (32 : Int) ^ 6 = 1073741824 by decide] at b1 b2
  rw [show (256 : Int) ^ 6 = 281474976710656 by decide] at d1 d2
  constructor
  · intro e
    rw [k5_inj l m hl hm ((iI_eq ⟨by omega, by omega⟩ ⟨by omega, by omega⟩).mp e)]
  · intro e
    have e2 := congrArg Int64.toInt e
    rw [Int64.toInt_ofInt_of_le (by simp; omega) (by simp; omega), Int64.toInt_ofInt_of_le (by simp; omega) (by simp; omega)] at e2
    rw [w8_inj l m hl hm e2]
end
section
theorem sho_nat {X B k : Nat} (h : B < 2 ^ k) : X <<< k ||| B = 2 ^ k * X + B := by
  rw [← Nat.shiftLeft_add_eq_or_of_lt h, Nat.shiftLeft_eq, Nat.mul_comm]
theorem shw_eq {x b : Int} (h0 : 0 ≤ x) (h1 : x < 1099511627776) (hb : 0 ≤ b ∧ b < 256) : shw (Int64.ofInt x) b = Int64.ofInt (256 * x + b) := by
  obtain ⟨X, rfl⟩ := Int.eq_ofNat_of_zero_le h0
  obtain ⟨B, rfl⟩ := Int.eq_ofNat_of_zero_le hb.1
  have e1 : ((iI 8).toInt64 &&& 63) = (8 : Int64) := by decide
  have e2 : (iI (B : Int)).toInt64 = Int64.ofInt (B : Int) := by
    apply Int64.toInt_inj.mp
    rw [Int32.toInt_toInt64, iI_toInt ⟨by omega, by omega⟩, Int64.toInt_ofInt_of_le (by first | (simp; done) | (simp; omega)) (by first | (simp; done) | (simp; omega))]
  unfold shw
  rw [e1, e2]
  apply Int64.toBitVec_inj.mp
  rw [Int64.toBitVec_or, Int64.toBitVec_shiftLeft, Int64.toBitVec_ofInt, Int64.toBitVec_ofInt, Int64.toBitVec_ofInt]
  have e3 : ((8 : Int64).toBitVec.smod 64) = 8#64 := by decide
  rw [e3]
  apply BitVec.eq_of_toNat_eq
  have f : ∀ N : Nat, N < 2 ^ 64 → (BitVec.ofInt 64 (N : Int)).toNat = N := fun N h => by
    rw [BitVec.toNat_ofInt]
    rw [show ((N : Int) % ((2 ^ 64 : Nat) : Int)) = ((N % 2 ^ 64 : Nat) : Int) by omega, Int.toNat_natCast, Nat.mod_eq_of_lt h]
  have hX : X < 2 ^ 40 := by omega
  have hB : B < 2 ^ 8 := by omega
  rw [BitVec.toNat_or, BitVec.shiftLeft_eq', BitVec.toNat_shiftLeft, f X (by omega), f B (by omega), show (256 * (X : Int) + (B : Int)) = ((256 * X + B : Nat) : Int) by omega, f (256 * X + B) (by omega)]
  rw [show (8#64 : BitVec 64).toNat = 8 by rfl, Nat.mod_eq_of_lt (by rw [Nat.shiftLeft_eq]; omega), sho_nat hB]
def sh5 (x y : Int) : Int := ((iI x <<< (iI 5 &&& 31)) ||| iI y).toInt
theorem sh5_i (x y : Int) : iI (sh5 x y) = (iI x <<< (iI 5 &&& 31)) ||| iI y := iI_self _
theorem sh5_eq {x y : Int} (h0 : 0 ≤ x) (h1 : x < 33554432) (hb : 0 ≤ y ∧ y < 32) : sh5 x y = 32 * x + y := by
  obtain ⟨X, rfl⟩ := Int.eq_ofNat_of_zero_le h0
  obtain ⟨B, rfl⟩ := Int.eq_ofNat_of_zero_le hb.1
  have key : (iI (X : Int) <<< (iI 5 &&& 31)) ||| iI (B : Int) = iI (32 * (X : Int) + (B : Int)) := by
    have e1 : (iI 5 &&& 31) = (5 : Int32) := by decide
    rw [e1]
    show (Int32.ofInt (X : Int) <<< (5 : Int32)) ||| Int32.ofInt (B : Int) = Int32.ofInt (32 * (X : Int) + (B : Int))
    apply Int32.toBitVec_inj.mp
    rw [Int32.toBitVec_or, Int32.toBitVec_shiftLeft, Int32.toBitVec_ofInt, Int32.toBitVec_ofInt, Int32.toBitVec_ofInt]
    have e3 : ((5 : Int32).toBitVec.smod 32) = 5#32 := by decide
    rw [e3]
    apply BitVec.eq_of_toNat_eq
    have f : ∀ N : Nat, N < 2 ^ 32 → (BitVec.ofInt 32 (N : Int)).toNat = N := fun N h => by
      rw [BitVec.toNat_ofInt]
      rw [show ((N : Int) % ((2 ^ 32 : Nat) : Int)) = ((N % 2 ^ 32 : Nat) : Int) by omega, Int.toNat_natCast, Nat.mod_eq_of_lt h]
    have hX : X < 2 ^ 25 := by omega
    have hB : B < 2 ^ 5 := by omega
    rw [BitVec.toNat_or, BitVec.shiftLeft_eq', BitVec.toNat_shiftLeft, f X (by omega), f B (by omega), show (32 * (X : Int) + (B : Int)) = ((32 * X + B : Nat) : Int) by omega, f (32 * X + B) (by omega)]
    rw [show (5#32 : BitVec 32).toNat = 5 by rfl, Nat.mod_eq_of_lt (by rw [Nat.shiftLeft_eq]; omega), sho_nat hB]
  unfold sh5
  rw [key, iI_toInt ⟨by omega, by omega⟩]
def lts (s : Int → Int) (p : Int) : Nat → List Int
  | 0 => []
  | n + 1 => s (p + n) :: lts s p n
theorem lts_len {s : Int → Int} {p : Int} : ∀ n, (lts s p n).length = n
  | 0 => rfl
  | n + 1 => by show (lts s p n).length + 1 = n + 1; rw [lts_len n]
theorem lts_ltr {s : Int → Int} {p : Int} : ∀ (n : Nat), (∀ j : Nat, j < n → 97 ≤ s (p + j) ∧ s (p + j) ≤ 122) → LTR (lts s p n)
  | 0, _ => fun b q => absurd q (by show ¬ b ∈ ([] : List Int); simp)
  | n + 1, h => fun b q => by
    rcases List.mem_cons.mp (show b ∈ s (p + n) :: lts s p n from q) with q | q
    · rw [q]; exact h n (by omega)
    · exact lts_ltr n (fun j w => h j (by omega)) b q
theorem ltp_run {s : Int → Int} {p : Int} : ∀ (n : Nat), n ≤ 6 → p + n ≤ 1300 → (∀ j : Nat, j < n → 97 ≤ s (p + j) ∧ s (p + j) ≤ 122) → ltp s p 0 0 = ltp s (p + n) (Int64.ofInt (w8 (lts s p n))) n
  | 0, _, _, _ => by
    show ltp s p 0 0 = ltp s (p + ((0 : Nat) : Int)) (Int64.ofInt 0) ((0 : Nat) : Int)
    rw [show p + ((0 : Nat) : Int) = p by omega]; rfl
  | n + 1, h6, hp, h => by
    have hl := lts_ltr (s := s) (p := p) n (fun j w => h j (by omega))
    have b1 := w8_0 _ hl
    have b2 := w8_b 5 _ hl (by rw [lts_len]; omega)
    rw [show (256 : Int) ^ 5 = 1099511627776 by decide] at b2
    have hn := h n (by omega)
    rw [ltp_run n (by omega) (by omega) (fun j w => h j (by omega)), ltp_s (by omega) hn, shw_eq b1 b2 ⟨by omega, by omega⟩]
    rw [show p + ((n + 1 : Nat) : Int) = p + (n : Int) + 1 by omega, show ((n + 1 : Nat) : Int) = (n : Int) + 1 by omega]
    rfl
theorem ltp_cnt {s : Int → Int} : ∀ (n : Nat) {p c : Int} {w : Int64}, p + n ≤ 1300 → (∀ j : Nat, j < n → 97 ≤ s (p + j) ∧ s (p + j) ≤ 122) → ¬ (97 ≤ s (p + n) ∧ s (p + n) ≤ 122) → (ltp s p w c).1 = p + n ∧ (ltp s p w c).2.2 = c + n
  | 0, p, c, w, _, _, h => by
    rw [show p + ((0 : Nat) : Int) = p by omega] at h ⊢
    rw [ltp_e h]; exact ⟨rfl, by show c = c + ((0 : Nat) : Int); omega⟩
  | n + 1, p, c, w, hp, h, g => by
    have h0 := h 0 (by omega)
    rw [show p + ((0 : Nat) : Int) = p by omega] at h0
    rw [ltp_s (by omega) h0]
    have q := ltp_cnt n (p := p + 1) (c := c + 1) (w := shw w (s p)) (by omega) (fun j w => by rw [show p + 1 + (j : Int) = p + ((j + 1 : Nat) : Int) by omega]; exact h (j + 1) (by omega)) (by rw [show p + 1 + (n : Int) = p + ((n + 1 : Nat) : Int) by omega]; exact g)
    exact ⟨by rw [q.1]; omega, by rw [q.2]; omega⟩
theorem dgp_cnt {s : Int → Int} : ∀ (n : Nat) {p c v : Int}, p + n ≤ 1300 → (∀ j : Nat, j < n → 48 ≤ s (p + j) ∧ s (p + j) ≤ 57) → ¬ (48 ≤ s (p + n) ∧ s (p + n) ≤ 57) → (dgp s p v c).1 = p + n ∧ (dgp s p v c).2.2 = c + n
  | 0, p, c, v, _, _, h => by
    rw [show p + ((0 : Nat) : Int) = p by omega] at h ⊢
    rw [dgp_e h]; exact ⟨rfl, by show c = c + ((0 : Nat) : Int); omega⟩
  | n + 1, p, c, v, hp, h, g => by
    have h0 := h 0 (by omega)
    rw [show p + ((0 : Nat) : Int) = p by omega] at h0
    rw [dgp_s (by omega) h0]
    have q := dgp_cnt n (p := p + 1) (c := c + 1) (v := dgv v c (s p)) (by omega) (fun j w => by rw [show p + 1 + (j : Int) = p + ((j + 1 : Nat) : Int) by omega]; exact h (j + 1) (by omega)) (by rw [show p + 1 + (n : Int) = p + ((n + 1 : Nat) : Int) by omega]; exact g)
    exact ⟨by rw [q.1]; omega, by rw [q.2]; omega⟩
end
section
def ckd (t : TK) : Int := if t.2.2.1 = 0 then 264 else if t.2.2.1 = 1 then 263 else if t.2.2.1 = 3 then 257 else if t.2.2.1 = 4 then t.2.2.2.1 else if t.2.2.2.2 = 7304564 then 258 else if t.2.2.2.2 = 125780071117422 then 259 else if t.2.2.2.2 = 26982 then 260 else if t.2.2.2.2 = 1701606245 then 261 else if t.2.2.2.2 = 512852847717 then 262 else 256
def TKV (t : TK) : Prop := (0 ≤ t.2.2.1 ∧ t.2.2.1 ≤ 4) ∧ (t.2.2.1 = 4 → 0 ≤ t.2.2.2.1 ∧ t.2.2.2.1 ≤ 255)
theorem ck_cases {t : TK} (h : TKV t) : (t.2.2.1 = 0 ∧ ckd t = 264) ∨ (t.2.2.1 = 1 ∧ ckd t = 263) ∨ (t.2.2.1 = 3 ∧ ckd t = 257) ∨ (t.2.2.1 = 4 ∧ ckd t = t.2.2.2.1 ∧ 0 ≤ t.2.2.2.1 ∧ t.2.2.2.1 ≤ 255) ∨ (t.2.2.1 = 2 ∧ ((t.2.2.2.2 = 7304564 ∧ ckd t = 258) ∨ (t.2.2.2.2 = 125780071117422 ∧ ckd t = 259) ∨ (t.2.2.2.2 = 26982 ∧ ckd t = 260) ∨ (t.2.2.2.2 = 1701606245 ∧ ckd t = 261) ∨ (t.2.2.2.2 = 512852847717 ∧ ckd t = 262) ∨ (t.2.2.2.2 ∉ W5 ∧ ckd t = 256))) := by
  unfold ckd
  by_cases c0 : t.2.2.1 = 0
  · exact Or.inl ⟨c0, if_pos c0⟩
  rw [if_neg c0]
  by_cases c1 : t.2.2.1 = 1
  · exact Or.inr (Or.inl ⟨c1, if_pos c1⟩)
  rw [if_neg c1]
  by_cases c3 : t.2.2.1 = 3
  · exact Or.inr (Or.inr (Or.inl ⟨c3, if_pos c3⟩))
  rw [if_neg c3]
  by_cases c4 : t.2.2.1 = 4
  · exact Or.inr (Or.inr (Or.inr (Or.inl ⟨c4, if_pos c4, h.2 c4⟩)))
  rw [if_neg c4]
  have c2 : t.2.2.1 = 2 := by have := h.1; omega
  refine Or.inr (Or.inr (Or.inr (Or.inr ⟨c2, ?_⟩)))
  by_cases a : t.2.2.2.2 = 7304564
  · exact Or.inl ⟨a, if_pos a⟩
  rw [if_neg a]
  by_cases b : t.2.2.2.2 = 125780071117422
  · exact Or.inr (Or.inl ⟨b, if_pos b⟩)
  rw [if_neg b]
  by_cases c : t.2.2.2.2 = 26982
  · exact Or.inr (Or.inr (Or.inl ⟨c, if_pos c⟩))
  rw [if_neg c]
  by_cases d : t.2.2.2.2 = 1701606245
  · exact Or.inr (Or.inr (Or.inr (Or.inl ⟨d, if_pos d⟩)))
  rw [if_neg d]
  by_cases e : t.2.2.2.2 = 512852847717
  · exact Or.inr (Or.inr (Or.inr (Or.inr (Or.inl ⟨e, if_pos e⟩))))
  rw [if_neg e]
  exact Or.inr (Or.inr (Or.inr (Or.inr (Or.inr ⟨by simp only [List.mem_cons, List.not_mem_nil, or_false]; exact fun q => q.elim a (fun q => q.elim b (fun q => q.elim c (fun q => q.elim d e))), rfl⟩))))
theorem w5_in {w : Int64} (h : w = 7304564 ∨ w = 125780071117422 ∨ w = 26982 ∨ w = 1701606245 ∨ w = 512852847717) : w ∈ W5 := by
  rcases h with rfl | rfl | rfl | rfl | rfl <;> decide
theorem ck_sgn {t : TK} {c : Int} (h : TKV t) (hc : c ≤ 255) : ckd t = c ↔ sgn t c := by
  rcases ck_cases h with ⟨a, b⟩ | ⟨a, b⟩ | ⟨a, b⟩ | ⟨a, b, d⟩ | ⟨a, b⟩
  · exact ⟨fun q => by omega, fun q => by have := q.1; omega⟩
  · exact ⟨fun q => by omega, fun q => by have := q.1; omega⟩
  · exact ⟨fun q => by omega, fun q => by have := q.1; omega⟩
  · exact ⟨fun q => ⟨a, by omega⟩, fun q => by rw [b]; exact q.2⟩
  · exact ⟨fun q => by rcases b with b | b | b | b | b | b <;> (have := b.2; omega), fun q => by have := q.1; omega⟩
theorem ck_nam {t : TK} (h : TKV t) : ckd t = 256 ↔ nam t := by
  rcases ck_cases h with ⟨a, b⟩ | ⟨a, b⟩ | ⟨a, b⟩ | ⟨a, b, d⟩ | ⟨a, b⟩
  · exact ⟨fun q => by omega, fun q => by have := q.1; omega⟩
  · exact ⟨fun q => by omega, fun q => by have := q.1; omega⟩
  · exact ⟨fun q => by omega, fun q => by have := q.1; omega⟩
  · exact ⟨fun q => by omega, fun q => by have := q.1; omega⟩
  · rcases b with b | b | b | b | b | b
    · exact ⟨fun q => by have := b.2; omega, fun q => absurd (w5_in (by simp [b.1])) q.2⟩
    · exact ⟨fun q => by have := b.2; omega, fun q => absurd (w5_in (by simp [b.1])) q.2⟩
    · exact ⟨fun q => by have := b.2; omega, fun q => absurd (w5_in (by simp [b.1])) q.2⟩
    · exact ⟨fun q => by have := b.2; omega, fun q => absurd (w5_in (by simp [b.1])) q.2⟩
    · exact ⟨fun q => by have := b.2; omega, fun q => absurd (w5_in (by simp [b.1])) q.2⟩
    · exact ⟨fun _ => ⟨a, b.1⟩, fun _ => b.2⟩
theorem ck_wrd {t : TK} {w : Int64} {k : Int} (h : TKV t) (hw : (w = 7304564 ∧ k = 258) ∨ (w = 125780071117422 ∧ k = 259) ∨ (w = 26982 ∧ k = 260) ∨ (w = 1701606245 ∧ k = 261) ∨ (w = 512852847717 ∧ k = 262)) : ckd t = k ↔ wrd t w := by
  have hk : 258 ≤ k ∧ k ≤ 262 := by omega
  rcases ck_cases h with ⟨a, b⟩ | ⟨a, b⟩ | ⟨a, b⟩ | ⟨a, b, d⟩ | ⟨a, b⟩
  · exact ⟨fun q => by omega, fun q => by have := q.1; omega⟩
  · exact ⟨fun q => by omega, fun q => by have := q.1; omega⟩
  · exact ⟨fun q => by omega, fun q => by have := q.1; omega⟩
  · exact ⟨fun q => by omega, fun q => by have := q.1; omega⟩
  · constructor
    · intro q
      refine ⟨a, ?_⟩
      rcases b with b | b | b | b | b | b <;> rcases hw with w1 | w1 | w1 | w1 | w1 <;> first | (exfalso; have := b.2; have := w1.2; omega) | (exact b.1.trans w1.1.symm)
    · intro q
      have e := q.2
      rcases hw with w1 | w1 | w1 | w1 | w1 <;> rcases b with b | b | b | b | b | b <;> first | (exact b.2.trans w1.2.symm) | (exfalso; rw [w1.1, b.1] at e; exact absurd e (by decide)) | (exfalso; exact b.1 (w5_in (by rw [e, w1.1]; simp)))
theorem ck_num {t : TK} (h : TKV t) : ckd t = 257 ↔ t.2.2.1 = 3 := by
  rcases ck_cases h with ⟨a, b⟩ | ⟨a, b⟩ | ⟨a, b⟩ | ⟨a, b, d⟩ | ⟨a, b | b | b | b | b | b⟩ <;> omega
theorem ck_end {t : TK} (h : TKV t) : ckd t = 264 ↔ t.2.2.1 = 0 := by
  rcases ck_cases h with ⟨a, b⟩ | ⟨a, b⟩ | ⟨a, b⟩ | ⟨a, b, d⟩ | ⟨a, b | b | b | b | b | b⟩ <;> omega
theorem advP_v {s : Int → Int} (hs : ∀ k, s k ≤ 255) (p : Int) : TKV (advP s p) := by
  unfold advP TKV
  by_cases c0 : s p < 0
  · rw [if_pos c0]; exact ⟨⟨Int.le_refl _, by show (0 : Int) ≤ 4; omega⟩, fun q => absurd q (by show ¬ (0 : Int) = 4; omega)⟩
  rw [if_neg c0]
  by_cases c1 : 97 ≤ s p ∧ s p ≤ 122
  · rw [if_pos c1]
    by_cases z : 6 < (ltp s p 0 0).2.2
    · rw [if_pos z]; exact ⟨⟨by show (0 : Int) ≤ 1; omega, by show (1 : Int) ≤ 4; omega⟩, fun q => absurd q (by show ¬ (1 : Int) = 4; omega)⟩
    · rw [if_neg z]; exact ⟨⟨by show (0 : Int) ≤ 2; omega, by show (2 : Int) ≤ 4; omega⟩, fun q => absurd q (by show ¬ (2 : Int) = 4; omega)⟩
  rw [if_neg c1]
  by_cases c2 : 48 ≤ s p ∧ s p ≤ 57
  · rw [if_pos c2]
    by_cases z : 7 < (dgp s p 0 0).2.2
    · rw [if_pos z]; exact ⟨⟨by show (0 : Int) ≤ 1; omega, by show (1 : Int) ≤ 4; omega⟩, fun q => absurd q (by show ¬ (1 : Int) = 4; omega)⟩
    · rw [if_neg z]; exact ⟨⟨by show (0 : Int) ≤ 3; omega, by show (3 : Int) ≤ 4; omega⟩, fun q => absurd q (by show ¬ (3 : Int) = 4; omega)⟩
  rw [if_neg c2]
  by_cases z : sgZ (s p) < 0
  · rw [if_pos z]; exact ⟨⟨by show (0 : Int) ≤ 1; omega, by show (1 : Int) ≤ 4; omega⟩, fun q => absurd q (by show ¬ (1 : Int) = 4; omega)⟩
  · rw [if_neg z]; exact ⟨⟨by show (0 : Int) ≤ 4; omega, by show (4 : Int) ≤ 4; omega⟩, fun _ => ⟨by show 0 ≤ s p; omega, hs p⟩⟩
def tkS (s : Int → Int) : Nat → TK
  | 0 => advT s 0
  | j + 1 => advT s (tkS s j).2.1
theorem tkS_v {s : Int → Int} (hs : ∀ k, s k ≤ 255) : ∀ j, TKV (tkS s j)
  | 0 => advP_v hs _
  | _ + 1 => advP_v hs _
def NKY (t : TK) (v : Int) : Prop := (t.2.2.1 = 2 → ∃ l, LTR l ∧ l.length ≤ 6 ∧ v = k5 l ∧ t.2.2.2.2 = Int64.ofInt (w8 l)) ∧ (t.2.2.1 = 3 → v = t.2.2.2.1)
theorem NKY.iff {t u : TK} {v w : Int} (h : NKY t v) (g : NKY u w) (ht : t.2.2.1 = 2) (hu : u.2.2.1 = 2) : v = w ↔ t.2.2.2.2 = u.2.2.2.2 := by
  obtain ⟨l, a, b, c, d⟩ := h.1 ht
  obtain ⟨m, a2, b2, c2, d2⟩ := g.1 hu
  rw [d, d2, ← kw_iff a a2 b b2, c, c2]
  have x1 := k5_0 l a
  have x2 := k5_0 m a2
  have y1 := k5_b 6 l a b
  have y2 := k5_b 6 m a2 b2
  rw [show (32 : Int) ^ 6 = 1073741824 by decide] at y1 y2
  exact (iI_eq ⟨by omega, by omega⟩ ⟨by omega, by omega⟩).symm
end
section
theorem nar_8 (x : Int32) : vp_nar .byte x = x.toInt8.toInt32 := rfl
theorem nar_rng (x : Int32) : -128 ≤ (vp_nar .byte x).toInt ∧ (vp_nar .byte x).toInt ≤ 127 := by
  rw [nar_8, Int8.toInt_toInt32]
  have h1 := x.toInt8.le_toInt
  have h2 := x.toInt8.toInt_lt
  omega
theorem nar_sh {a b : Int32} (h : a.toBitVec.setWidth 8 = b.toBitVec.setWidth 8) : vp_nar .byte a = vp_nar .byte b := by
  rw [nar_8, nar_8]
  have e : a.toInt8 = b.toInt8 := by
    apply Int8.toBitVec_inj.mp
    show a.toBitVec.signExtend 8 = b.toBitVec.signExtend 8
    rw [BitVec.signExtend_eq_setWidth_of_le _ (by decide), BitVec.signExtend_eq_setWidth_of_le _ (by decide)]
    exact h
  rw [e]
theorem bv_sh (x : BitVec 32) {k : Nat} (hk : k ≤ 24) : (x >>> k).setWidth 8 = (x.sshiftRight k).setWidth 8 := by
  apply BitVec.eq_of_getLsbD_eq
  intro i hi
  rw [BitVec.getLsbD_setWidth, BitVec.getLsbD_setWidth, BitVec.getLsbD_ushiftRight, BitVec.getLsbD_sshiftRight]
  have h1 : ¬ 32 ≤ i := by omega
  have h2 : k + i < 32 := by omega
  simp [h1, h2]
theorem tp_sh (x : Int32) (k : Nat) (c : UInt32) (d : Int32) (hk : k ≤ 24) (hc : c.toBitVec % 32 = BitVec.ofNat 32 k) (hd : d.toBitVec.smod 32 = BitVec.ofNat 32 k) : vp_nar .byte ((x.toUInt32 >>> c).toInt32) = vp_nar .byte (x >>> d) := by
  apply nar_sh
  have e1 : ((x.toUInt32 >>> c).toInt32).toBitVec = x.toBitVec >>> k := by
    show (x.toUInt32 >>> c).toBitVec = _
    rw [UInt32.toBitVec_shiftRight, hc, BitVec.ushiftRight_eq', BitVec.toNat_ofNat, Nat.mod_eq_of_lt (by omega)]
    rfl
  have e2 : (x >>> d).toBitVec = x.toBitVec.sshiftRight k := by
    rw [Int32.toBitVec_shiftRight, hd]
    show x.toBitVec.sshiftRight (BitVec.ofNat 32 k).toNat = _
    rw [BitVec.toNat_ofNat, Nat.mod_eq_of_lt (by omega)]
  rw [e1, e2]
  exact bv_sh _ hk
theorem tp_24 (x : Int32) : vp_nar .byte ((x.toUInt32 >>> ((iI 24).toUInt32 &&& Int32.toUInt32 31)).toInt32) = vp_nar .byte (x >>> (iI 24 &&& 31)) := tp_sh x 24 _ _ (by omega) (by decide) (by decide)
theorem tp_16 (x : Int32) : vp_nar .byte ((x.toUInt32 >>> ((iI 16).toUInt32 &&& Int32.toUInt32 31)).toInt32) = vp_nar .byte (x >>> (iI 16 &&& 31)) := tp_sh x 16 _ _ (by omega) (by decide) (by decide)
theorem tp_8 (x : Int32) : vp_nar .byte ((x.toUInt32 >>> ((iI 8).toUInt32 &&& Int32.toUInt32 31)).toInt32) = vp_nar .byte (x >>> (iI 8 &&& 31)) := tp_sh x 8 _ _ (by omega) (by decide) (by decide)
theorem tp_0 (x : Int32) : vp_nar .byte ((x.toUInt32 >>> ((iI 0).toUInt32 &&& Int32.toUInt32 31)).toInt32) = vp_nar .byte (x >>> (iI 0 &&& 31)) := tp_sh x 0 _ _ (by omega) (by decide) (by decide)
end
section
theorem wk_of {l m : List Int} {v : Int} {w : Int64} (hl : LTR l) (h6 : l.length ≤ 6) (hm : LTR m) (m6 : m.length ≤ 6) (hv : k5 m = v) (hw : Int64.ofInt (w8 m) = w) : k5 l = v ↔ Int64.ofInt (w8 l) = w := by
  rw [← hw, ← kw_iff hl hm h6 m6, ← hv]
  have x1 := k5_0 l hl
  have x2 := k5_0 m hm
  have y1 := k5_b 6 l hl h6
  have y2 := k5_b 6 m hm m6
  rw [show (32 : Int) ^ 6 = 1073741824 by decide] at y1 y2
  exact (iI_eq ⟨by omega, by omega⟩ ⟨by omega, by omega⟩).symm
theorem wk_out {l : List Int} (hl : LTR l) (h6 : l.length ≤ 6) : k5 l = 16052 ↔ Int64.ofInt (w8 l) = 7304564 := wk_of hl h6 (m := [116, 117, 111]) (by unfold LTR; decide) (by decide) (by decide) (by decide)
theorem wk_ret {l : List Int} (hl : LTR l) (h6 : l.length ≤ 6) : k5 l = 609900110 ↔ Int64.ofInt (w8 l) = 125780071117422 := wk_of hl h6 (m := [110, 114, 117, 116, 101, 114]) (by unfold LTR; decide) (by decide) (by decide) (by decide)
theorem wk_if {l : List Int} (hl : LTR l) (h6 : l.length ≤ 6) : k5 l = 294 ↔ Int64.ofInt (w8 l) = 26982 := wk_of hl h6 (m := [102, 105]) (by unfold LTR; decide) (by decide) (by decide) (by decide)
theorem wk_els {l : List Int} (hl : LTR l) (h6 : l.length ≤ 6) : k5 l = 176741 ↔ Int64.ofInt (w8 l) = 1701606245 := wk_of hl h6 (m := [101, 115, 108, 101]) (by unfold LTR; decide) (by decide) (by decide) (by decide)
theorem wk_whi {l : List Int} (hl : LTR l) (h6 : l.length ≤ 6) : k5 l = 24388997 ↔ Int64.ofInt (w8 l) = 512852847717 := wk_of hl h6 (m := [101, 108, 105, 104, 119]) (by unfold LTR; decide) (by decide) (by decide) (by decide)
end
section
def TEQ (t u : TK) : Prop := t.1 = u.1 ∧ t.2.1 = u.2.1 ∧ t.2.2.1 = u.2.2.1 ∧ t.2.2.2.2 = u.2.2.2.2 ∧ (u.2.2.1 ≠ 2 → t.2.2.2.1 = u.2.2.2.1)
theorem TEQ.rf {t : TK} : TEQ t t := ⟨rfl, rfl, rfl, rfl, fun _ => rfl⟩
theorem TEQ.sg {t u : TK} {c : Int} (h : TEQ t u) : sgn t c ↔ sgn u c := by
  obtain ⟨h1, h2, h3, h4, h5⟩ := h
  show (t.2.2.1 = 4 ∧ t.2.2.2.1 = c) ↔ (u.2.2.1 = 4 ∧ u.2.2.2.1 = c)
  rw [h3]
  exact ⟨fun q => ⟨q.1, by rw [← h5 (by have := q.1; omega)]; exact q.2⟩, fun q => ⟨q.1, by rw [h5 (by have := q.1; omega)]; exact q.2⟩⟩
theorem TEQ.nm {t u : TK} (h : TEQ t u) : nam t ↔ nam u := by
  show (t.2.2.1 = 2 ∧ t.2.2.2.2 ∉ W5) ↔ (u.2.2.1 = 2 ∧ u.2.2.2.2 ∉ W5)
  rw [h.2.2.1, h.2.2.2.1]
theorem TEQ.wd {t u : TK} {w : Int64} (h : TEQ t u) : wrd t w ↔ wrd u w := by
  show (t.2.2.1 = 2 ∧ t.2.2.2.2 = w) ↔ (u.2.2.1 = 2 ∧ u.2.2.2.2 = w)
  rw [h.2.2.1, h.2.2.2.1]
theorem TEQ.nx {S : Int → Int} {t : TK} {j : Nat} (h : TEQ t (tkS S j)) : TEQ (advT S t.2.1) (tkS S (j + 1)) := by
  rw [h.2.1]; exact TEQ.rf
def SB (S : Int → Int) : Prop := ∀ k, S k ≤ 255
section KDS
variable {S : Int → Int} {j : Nat} {t : TK} {c : Int}
theorem kdS (hS : SB S) (a : TEQ t (tkS S j)) (hc : c ≤ 255) : ckd (tkS S j) = c ↔ sgn t c := (ck_sgn (tkS_v hS j) hc).trans a.sg.symm
theorem kdN (hS : SB S) (a : TEQ t (tkS S j)) : ckd (tkS S j) = 256 ↔ nam t := (ck_nam (tkS_v hS j)).trans a.nm.symm
theorem kd3 (hS : SB S) (a : TEQ t (tkS S j)) : ckd (tkS S j) = 257 ↔ t.2.2.1 = 3 := by rw [a.2.2.1]; exact ck_num (tkS_v hS j)
theorem kdE (hS : SB S) (a : TEQ t (tkS S j)) : ckd (tkS S j) = 264 ↔ t.2.2.1 = 0 := by rw [a.2.2.1]; exact ck_end (tkS_v hS j)
theorem kdO (hS : SB S) (a : TEQ t (tkS S j)) : ckd (tkS S j) = 258 ↔ wrd t 7304564 := (ck_wrd (tkS_v hS j) (Or.inl ⟨rfl, rfl⟩)).trans a.wd.symm
theorem kdR (hS : SB S) (a : TEQ t (tkS S j)) : ckd (tkS S j) = 259 ↔ wrd t 125780071117422 := (ck_wrd (tkS_v hS j) (Or.inr (Or.inl ⟨rfl, rfl⟩))).trans a.wd.symm
theorem kdI (hS : SB S) (a : TEQ t (tkS S j)) : ckd (tkS S j) = 260 ↔ wrd t 26982 := (ck_wrd (tkS_v hS j) (Or.inr (Or.inr (Or.inl ⟨rfl, rfl⟩)))).trans a.wd.symm
theorem kdL (hS : SB S) (a : TEQ t (tkS S j)) : ckd (tkS S j) = 261 ↔ wrd t 1701606245 := (ck_wrd (tkS_v hS j) (Or.inr (Or.inr (Or.inr (Or.inl ⟨rfl, rfl⟩))))).trans a.wd.symm
theorem kdW (hS : SB S) (a : TEQ t (tkS S j)) : ckd (tkS S j) = 262 ↔ wrd t 512852847717 := (ck_wrd (tkS_v hS j) (Or.inr (Or.inr (Or.inr (Or.inr ⟨rfl, rfl⟩))))).trans a.wd.symm
end KDS
def GCS (S : Int → Int) (ks : List Nat) (j : Nat) (x : Int × Int × Int) (q : QR) (ls : List Nat) (i : Nat) (y : Int × Int × Int) (p : QR) (es : List EW) : Prop := ∀ t, TEQ t (tkS S j) → ∃ (t' : TK) (l : List EV), TEQ t' (tkS S i) ∧ ∀ (K : List Nat) (ρ : List EV), RE S (ks ++ K, t, x, q, ρ) es (ls ++ K, t', y, p, ρ ++ l)
def GCF (S : Int → Int) (ks : List Nat) (j : Nat) (x : Int × Int × Int) (q : QR) (p : Int) : Prop := ∃ es, ∀ t, TEQ t (tkS S j) → ∀ (K : List Nat) (ρ : List EV), RE S (ks ++ K, t, x, q, ρ) (es ++ [(9, p, 0, 0)]) pF
section GCSS
variable {S : Int → Int} {ks ls ms : List Nat} {j i k : Nat} {x y z : Int × Int × Int} {q p r : QR} {es e2 : List EW} {pl : Int}
theorem GCS.nl : GCS S ks j x q ks j x q [] := fun t h => ⟨t, [], h, fun K ρ => by rw [List.append_nil]; exact RE.rfl⟩
theorem GCS.gg (h : GCS S ks j x q ls i y p es) (g : GCS S ls i y p ms k z r e2) : GCS S ks j x q ms k z r (es ++ e2) := fun t a => by
  obtain ⟨t1, l1, a1, b1⟩ := h t a
  obtain ⟨t2, l2, a2, b2⟩ := g t1 a1
  refine ⟨t2, l1 ++ l2, a2, fun K ρ => ?_⟩
  have w := b2 K (ρ ++ l1)
  rw [List.append_assoc] at w
  exact (b1 K ρ).trans w
theorem GCS.ml (m : List Nat) (h : GCS S ks j x q ls i y p es) : GCS S (ks ++ m) j x q (ls ++ m) i y p es := fun t a => by
  obtain ⟨t1, l1, a1, b1⟩ := h t a
  refine ⟨t1, l1, a1, fun K ρ => ?_⟩
  rw [List.append_assoc, List.append_assoc]
  exact b1 (m ++ K) ρ
theorem GCF.ml (m : List Nat) (h : GCF S ks j x q pl) : GCF S (ks ++ m) j x q pl := by
  obtain ⟨es, b⟩ := h
  exact ⟨es, fun t a K ρ => by rw [List.append_assoc]; exact b t a (m ++ K) ρ⟩
theorem GCS.fl (h : GCS S ks j x q ls i y p es) (g : GCF S ls i y p pl) : GCF S ks j x q pl := by
  obtain ⟨e2, b2⟩ := g
  refine ⟨es ++ e2, fun t a K ρ => ?_⟩
  obtain ⟨t1, l1, a1, b1⟩ := h t a
  rw [List.append_assoc]
  exact (b1 K ρ).trans (b2 t1 a1 K _)
theorem GCS.st {k0 : Nat} (hk : k0 ≠ 999) (h : ∀ t, TEQ t (tkS S j) → ∃ (t' : TK) (l : List EV), TEQ t' (tkS S i) ∧ stk S k0 t x q = some (ls, t', y, p, l) ∧ evk k0 t x q = es) : GCS S [k0] j x q ls i y p es := fun t a => by
  obtain ⟨t1, l1, a1, b1, c1⟩ := h t a
  exact ⟨t1, l1, a1, fun K ρ => RE.one (stp_some b1) ((evt_s hk b1).trans c1)⟩
theorem GCF.st {k0 : Nat} (hk : k0 ≠ 999) (h : ∀ t, TEQ t (tkS S j) → stk S k0 t x q = none) : GCF S [k0] j x q (tkS S j).1 := ⟨[], fun t a K ρ => RE.one (stp_none (h t a)) ((evt_n hk (h t a)).trans (by rw [a.1]; rfl))⟩
end GCSS
abbrev UR : Type := Int64 × Int × Int
abbrev u0 : UR := (0, 0, 0)
def GR (S : Int → Int) (ks : List Nat) (j : Nat) (e b : Int) (u : UR) (ls : List Nat) (i : Nat) (f d : Int) (w : UR) (m : Int) (es : List EW) : Prop := ∀ N pm rp : Int, GCS S ks j (e, b, N) (u.1, u.2.1, u.2.2, pm, rp) ls i (f, d, N + m) (w.1, w.2.1, w.2.2, pm, rp) es
def GRF (S : Int → Int) (ks : List Nat) (j : Nat) (e b : Int) (u : UR) (p : Int) : Prop := ∀ N pm rp : Int, GCF S ks j (e, b, N) (u.1, u.2.1, u.2.2, pm, rp) p
section GRS
variable {S : Int → Int} {ks ls ms l z : List Nat} {j i k : Nat} {e b f d f2 d2 m m2 : Int} {u w w2 : UR} {es e2 : List EW} {pl : Int}
theorem GR.nl : GR S ks j e b u ks j e b u 0 [] := fun N pm rp => by rw [Int.add_zero]; exact GCS.nl
theorem GR.gg (z : List Nat) (h : GR S ks j e b u (l ++ z) i f d w m es) (g : GR S l i f d w ms k f2 d2 w2 m2 e2) : GR S ks j e b u (ms ++ z) k f2 d2 w2 (m + m2) (es ++ e2) := fun N pm rp => by
  have q := (g (N + m) pm rp).ml z
  rw [Int.add_assoc] at q
  exact (h N pm rp).gg q
theorem GR.g0 (z : List Nat) (h : GR S ks j e b u (l ++ z) i f d w m es) (g : GR S l i f d w ms k f2 d2 w2 m2 []) : GR S ks j e b u (ms ++ z) k f2 d2 w2 (m + m2) es := by
  have q := h.gg z g
  rw [List.append_nil] at q
  exact q
theorem GR.fl (z : List Nat) (h : GR S ks j e b u (l ++ z) i f d w m es) (g : GRF S l i f d w pl) : GRF S ks j e b u pl := fun N pm rp => (h N pm rp).fl ((g (N + m) pm rp).ml z)
end GRS
end
section
section STEPS
variable {S : Int → Int} {j : Nat} {e b : Int} {u : UR}
theorem x0m (hS : SB S) (h : ckd (tkS S j) = 45) : GR S [0] j e b u [1, 51] (j + 1) e b u 0 [] := fun N pm rp => by
  rw [Int.add_zero]; exact GCS.st (by decide) (fun t a => ⟨(advT S t.2.1), _, a.nx, if_pos ((kdS hS a (c := 45) (by decide)).mp h), rfl⟩)
theorem x0n (hS : SB S) (h : ckd (tkS S j) ≠ 45) : GR S [0] j e b u [1] j e b u 0 [] := fun N pm rp => by
  rw [Int.add_zero]; exact GCS.st (by decide) (fun t a => ⟨t, _, a, if_neg (fun q => absurd ((kdS hS a (c := 45) (by decide)).mpr q) h), rfl⟩)
theorem x1d (hS : SB S) (h : ckd (tkS S j) = 257) : GR S [1] j e b u [] (j + 1) e b u 0 [] := fun N pm rp => by
  rw [Int.add_zero]; exact GCS.st (by decide) (fun t a => ⟨(advT S t.2.1), _, a.nx, if_pos (Or.inl ((kd3 hS a).mp h)), if_neg (fun q => absurd ((kdN hS a).mpr q) (by rw [h]; decide))⟩)
theorem x1w (hS : SB S) (h : ckd (tkS S j) = 256) : GR S [1] j e b u [] (j + 1) e b u 0 [(4, (tkS S j).1, 0, (tkS S j).2.2.2.2)] := fun N pm rp => by
  rw [Int.add_zero]; exact GCS.st (by decide) (fun t a => ⟨(advT S t.2.1), _, a.nx, if_pos (Or.inr ((kdN hS a).mp h)), (if_pos ((kdN hS a).mp h)).trans (by rw [a.1, a.2.2.2.1])⟩)
theorem x1p (hS : SB S) (h : ckd (tkS S j) = 40) : GR S [1] j e b u [2, 141] (j + 1) e b u 0 [] := fun N pm rp => by
  rw [Int.add_zero]; exact GCS.st (by decide) (fun t a => ⟨(advT S t.2.1), _, a.nx, ((if_neg (fun q => q.elim (fun q => absurd ((kd3 hS a).mpr q) (by rw [h]; decide)) (fun q => absurd ((kdN hS a).mpr q) (by rw [h]; decide))))).trans (if_pos ((kdS hS a (c := 40) (by decide)).mp h)), if_neg (fun q => absurd ((kdN hS a).mpr q) (by rw [h]; decide))⟩)
theorem x1f (hS : SB S) (h1 : ckd (tkS S j) ≠ 40) (h2 : ckd (tkS S j) ≠ 257) (h3 : ckd (tkS S j) ≠ 256) : GRF S [1] j e b u (tkS S j).1 := fun N pm rp => GCF.st (by decide) (fun t a => ((if_neg (fun q => q.elim (fun q => absurd ((kd3 hS a).mpr q) h2) (fun q => absurd ((kdN hS a).mpr q) h3)))).trans (if_neg (fun q => absurd ((kdS hS a (c := 40) (by decide)).mpr q) h1)))
theorem x2 (hS : SB S) (h : e ≠ 8) : GR S [2] j e b u [3, 6] j (e + 1) b u 0 [] := fun N pm rp => by
  rw [Int.add_zero]; exact GCS.st (by decide) (fun t a => ⟨t, _, a, if_neg h, rfl⟩)
theorem x2f (hS : SB S) (h : e = 8) : GRF S [2] j e b u (tkS S j).1 := fun N pm rp => GCF.st (by decide) (fun t a => if_pos h)
theorem x3 (hS : SB S)  : GR S [3] j e b u [4, 8] j e b u 0 [] := fun N pm rp => by
  rw [Int.add_zero]; exact GCS.st (by decide) (fun t a => ⟨t, _, a, rfl, rfl⟩)
theorem x4 (hS : SB S)  : GR S [4] j e b u [0, 9] j e b u 0 [] := fun N pm rp => by
  rw [Int.add_zero]; exact GCS.st (by decide) (fun t a => ⟨t, _, a, rfl, rfl⟩)
theorem x6e (hS : SB S) (h : ckd (tkS S j) = 61) : GR S [6] j e b u [3, 51, 7] (j + 1) e b u 0 [] := fun N pm rp => by
  rw [Int.add_zero]; exact GCS.st (by decide) (fun t a => ⟨(advT S t.2.1), _, a.nx, if_pos (Or.inl ((kdS hS a (c := 61) (by decide)).mp h)), rfl⟩)
theorem x6l (hS : SB S) (h : ckd (tkS S j) = 60) : GR S [6] j e b u [3, 51, 7] (j + 1) e b u 0 [] := fun N pm rp => by
  rw [Int.add_zero]; exact GCS.st (by decide) (fun t a => ⟨(advT S t.2.1), _, a.nx, if_pos (Or.inr ((kdS hS a (c := 60) (by decide)).mp h)), rfl⟩)
theorem x6n (hS : SB S) (h1 : ckd (tkS S j) ≠ 61) (h2 : ckd (tkS S j) ≠ 60) : GR S [6] j e b u [7] j e b u 0 [] := fun N pm rp => by
  rw [Int.add_zero]; exact GCS.st (by decide) (fun t a => ⟨t, _, a, if_neg (fun q => q.elim (fun q => absurd ((kdS hS a (c := 61) (by decide)).mpr q) h1) (fun q => absurd ((kdS hS a (c := 60) (by decide)).mpr q) h2)), rfl⟩)
theorem x7 (hS : SB S)  : GR S [7] j e b u [] j (e - 1) b u 0 [] := fun N pm rp => by
  rw [Int.add_zero]; exact GCS.st (by decide) (fun t a => ⟨t, _, a, rfl, rfl⟩)
theorem x8p (hS : SB S) (h : ckd (tkS S j) = 43) : GR S [8] j e b u [4, 51, 8] (j + 1) e b u 0 [] := fun N pm rp => by
  rw [Int.add_zero]; exact GCS.st (by decide) (fun t a => ⟨(advT S t.2.1), _, a.nx, if_pos (Or.inl ((kdS hS a (c := 43) (by decide)).mp h)), rfl⟩)
theorem x8m (hS : SB S) (h : ckd (tkS S j) = 45) : GR S [8] j e b u [4, 51, 8] (j + 1) e b u 0 [] := fun N pm rp => by
  rw [Int.add_zero]; exact GCS.st (by decide) (fun t a => ⟨(advT S t.2.1), _, a.nx, if_pos (Or.inr ((kdS hS a (c := 45) (by decide)).mp h)), rfl⟩)
theorem x8n (hS : SB S) (h1 : ckd (tkS S j) ≠ 43) (h2 : ckd (tkS S j) ≠ 45) : GR S [8] j e b u [] j e b u 0 [] := fun N pm rp => by
  rw [Int.add_zero]; exact GCS.st (by decide) (fun t a => ⟨t, _, a, if_neg (fun q => q.elim (fun q => absurd ((kdS hS a (c := 43) (by decide)).mpr q) h1) (fun q => absurd ((kdS hS a (c := 45) (by decide)).mpr q) h2)), rfl⟩)
theorem x9y (hS : SB S) (h : ckd (tkS S j) = 42) : GR S [9] j e b u [0, 51, 9] (j + 1) e b u 0 [] := fun N pm rp => by
  rw [Int.add_zero]; exact GCS.st (by decide) (fun t a => ⟨(advT S t.2.1), _, a.nx, if_pos ((kdS hS a (c := 42) (by decide)).mp h), rfl⟩)
theorem x9n (hS : SB S) (h : ckd (tkS S j) ≠ 42) : GR S [9] j e b u [] j e b u 0 [] := fun N pm rp => by
  rw [Int.add_zero]; exact GCS.st (by decide) (fun t a => ⟨t, _, a, if_neg (fun q => absurd ((kdS hS a (c := 42) (by decide)).mpr q) h), rfl⟩)
theorem x51 (hS : SB S)  : GR S [51] j e b u [] j e b u 1 [] := fun N pm rp => by
  exact GCS.st (by decide) (fun t a => ⟨t, _, a, rfl, rfl⟩)
theorem x52 (hS : SB S)  : GR S [52] j e b u [] j e b u 2 [] := fun N pm rp => by
  exact GCS.st (by decide) (fun t a => ⟨t, _, a, rfl, rfl⟩)
theorem x20w (hS : SB S) (h : ckd (tkS S j) = 262) : GR S [20] j e b u [22] j e b u 0 [(5, (tkS S j).1, 0, 0)] := fun N pm rp => by
  rw [Int.add_zero]; exact GCS.st (by decide) (fun t a => ⟨t, _, a, if_pos ((kdW hS a).mp h), by show [(5, t.1, 0, 0)] = _; rw [a.1]⟩)
theorem x20i (hS : SB S) (h : ckd (tkS S j) = 260) : GR S [20] j e b u [51, 21] j e b u 0 [(5, (tkS S j).1, 0, 0)] := fun N pm rp => by
  rw [Int.add_zero]; exact GCS.st (by decide) (fun t a => ⟨t, _, a, (if_neg (fun q => absurd ((kdW hS a).mpr q) (by rw [h]; decide))).trans (if_pos ((kdI hS a).mp h)), by show [(5, t.1, 0, 0)] = _; rw [a.1]⟩)
theorem x20o (hS : SB S) (h : ckd (tkS S j) = 258) : GR S [20] j e b u [51, 39] j e b u 0 [(5, (tkS S j).1, 0, 0)] := fun N pm rp => by
  rw [Int.add_zero]; exact GCS.st (by decide) (fun t a => ⟨t, _, a, (if_neg (fun q => absurd ((kdW hS a).mpr q) (by rw [h]; decide))).trans ((if_neg (fun q => absurd ((kdI hS a).mpr q) (by rw [h]; decide))).trans (if_pos (Or.inl ((kdO hS a).mp h)))), by show [(5, t.1, 0, 0)] = _; rw [a.1]⟩)
theorem x20r (hS : SB S) (h : ckd (tkS S j) = 259) : GR S [20] j e b u [51, 39] j e b u 0 [(5, (tkS S j).1, 0, 0)] := fun N pm rp => by
  rw [Int.add_zero]; exact GCS.st (by decide) (fun t a => ⟨t, _, a, (if_neg (fun q => absurd ((kdW hS a).mpr q) (by rw [h]; decide))).trans ((if_neg (fun q => absurd ((kdI hS a).mpr q) (by rw [h]; decide))).trans (if_pos (Or.inr ((kdR hS a).mp h)))), by show [(5, t.1, 0, 0)] = _; rw [a.1]⟩)
theorem x20n (hS : SB S) (h : ckd (tkS S j) = 256) : GR S [20] j e b u [51, 23] j e b u 0 [(5, (tkS S j).1, 0, 0)] := fun N pm rp => by
  rw [Int.add_zero]; exact GCS.st (by decide) (fun t a => ⟨t, _, a, (if_neg (fun q => absurd ((kdW hS a).mpr q) (by rw [h]; decide))).trans ((if_neg (fun q => absurd ((kdI hS a).mpr q) (by rw [h]; decide))).trans ((if_neg (fun q => q.elim (fun q => absurd ((kdO hS a).mpr q) (by rw [h]; decide)) (fun q => absurd ((kdR hS a).mpr q) (by rw [h]; decide)))).trans (if_pos ((kdN hS a).mp h)))), by show [(5, t.1, 0, 0)] = _; rw [a.1]⟩)
theorem x20f (hS : SB S) (h : ckd (tkS S j) < 256 ∨ 262 < ckd (tkS S j) ∨ ckd (tkS S j) = 257 ∨ ckd (tkS S j) = 261) : GRF S [20] j e b u (tkS S j).1 := fun N pm rp => GCF.st (by decide) (fun t a => (if_neg (fun q => absurd ((kdW hS a).mpr q) (by omega))).trans ((if_neg (fun q => absurd ((kdI hS a).mpr q) (by omega))).trans ((if_neg (fun q => q.elim (fun q => absurd ((kdO hS a).mpr q) (by omega)) (fun q => absurd ((kdR hS a).mpr q) (by omega)))).trans (if_neg (fun q => absurd ((kdN hS a).mpr q) (by omega))))))
theorem x21 (hS : SB S)  : GR S [21] j e b u [2, 51, 28, 24] (j + 1) e b u 0 [] := fun N pm rp => by
  rw [Int.add_zero]; exact GCS.st (by decide) (fun t a => ⟨(advT S t.2.1), _, a.nx, rfl, rfl⟩)
theorem x22 (hS : SB S)  : GR S [22] j e b u [52, 2, 51, 28, 52] (j + 1) e b u 0 [] := fun N pm rp => by
  rw [Int.add_zero]; exact GCS.st (by decide) (fun t a => ⟨(advT S t.2.1), _, a.nx, rfl, rfl⟩)
theorem x23 (hS : SB S)  : GR S [23] j e b u [161, 25] (j + 1) e b u 0 [(4, (tkS S j).1, 0, (tkS S j).2.2.2.2)] := fun N pm rp => by
  rw [Int.add_zero]; exact GCS.st (by decide) (fun t a => ⟨(advT S t.2.1), _, a.nx, rfl, by show [(4, t.1, 0, t.2.2.2.2)] = _; rw [a.1, a.2.2.2.1]⟩)
theorem x39 (hS : SB S)  : GR S [39] j e b u [2, 51, 159] (j + 1) e b u 0 [] := fun N pm rp => by
  rw [Int.add_zero]; exact GCS.st (by decide) (fun t a => ⟨(advT S t.2.1), _, a.nx, rfl, rfl⟩)
theorem x24y (hS : SB S) (h : ckd (tkS S j) = 261) : GR S [24] j e b u [52, 28, 51] (j + 1) e b u 0 [] := fun N pm rp => by
  rw [Int.add_zero]; exact GCS.st (by decide) (fun t a => ⟨(advT S t.2.1), _, a.nx, if_pos ((kdL hS a).mp h), rfl⟩)
theorem x24n (hS : SB S) (h : ckd (tkS S j) ≠ 261) : GR S [24] j e b u [51] j e b u 0 [] := fun N pm rp => by
  rw [Int.add_zero]; exact GCS.st (by decide) (fun t a => ⟨t, _, a, if_neg (fun q => absurd ((kdL hS a).mpr q) h), rfl⟩)
theorem x25c (hS : SB S) (h : ckd (tkS S j) = 256) (h2 : ckd (tkS S (j + 1)) = 40) : GR S [25] j e b u [26, 159] (j + 1) e b ((tkS S j).2.2.2.2, 0, (tkS S j).1) 0 [] := fun N pm rp => by
  rw [Int.add_zero]; exact GCS.st (by decide) (fun t a => ⟨(advT S t.2.1), _, a.nx, (if_pos ((kdN hS a).mp h)).trans ((if_pos ((kdS hS a.nx (c := 40) (by decide)).mp h2)).trans (by rw [a.1, a.2.2.2.1])), rfl⟩)
theorem x25b (hS : SB S) (h : ckd (tkS S j) = 256) (h2 : ckd (tkS S (j + 1)) ≠ 40) : GR S [25] j e b u [2, 52, 159] j e b u 0 [] := fun N pm rp => by
  rw [Int.add_zero]; exact GCS.st (by decide) (fun t a => ⟨(t.1, t.2.1, 2, (advT S t.2.1).2.2.2.1, t.2.2.2.2), _, ⟨a.1, a.2.1, by rw [← a.2.2.1]; exact ((((kdN hS a).mp h)).1).symm, a.2.2.2.1, fun q => absurd (a.2.2.1.symm.trans (((kdN hS a).mp h)).1) q⟩, (if_pos ((kdN hS a).mp h)).trans (if_neg (fun q => h2 ((kdS hS a.nx (c := 40) (by decide)).mpr q))), rfl⟩)
theorem x25n (hS : SB S) (h : ckd (tkS S j) ≠ 256) : GR S [25] j e b u [2, 52, 159] j e b u 0 [] := fun N pm rp => by
  rw [Int.add_zero]; exact GCS.st (by decide) (fun t a => ⟨t, _, a, if_neg (fun q => absurd ((kdN hS a).mpr q) h), rfl⟩)
theorem x26y (hS : SB S) (h2 : ckd (tkS S (j + 1)) = 41) : GR S [26] j e b u [38, 141] (j + 1) e b u 0 [] := fun N pm rp => by
  rw [Int.add_zero]; exact GCS.st (by decide) (fun t a => ⟨(advT S t.2.1), _, a.nx, if_pos ((kdS hS a.nx (c := 41) (by decide)).mp h2), rfl⟩)
theorem x26n (hS : SB S) (h2 : ckd (tkS S (j + 1)) ≠ 41) : GR S [26] j e b u [2, 27] (j + 1) e b u 0 [] := fun N pm rp => by
  rw [Int.add_zero]; exact GCS.st (by decide) (fun t a => ⟨(advT S t.2.1), _, a.nx, if_neg (fun q => h2 ((kdS hS a.nx (c := 41) (by decide)).mpr q)), rfl⟩)
theorem x27y (hS : SB S) (h : ckd (tkS S j) = 44) : GR S [27] j e b u [2, 27] (j + 1) e b (u.1, u.2.1 + 1, u.2.2) 0 [] := fun N pm rp => by
  rw [Int.add_zero]; exact GCS.st (by decide) (fun t a => ⟨(advT S t.2.1), _, a.nx, if_pos ((kdS hS a (c := 44) (by decide)).mp h), rfl⟩)
theorem x27n (hS : SB S) (h : ckd (tkS S j) ≠ 44) : GR S [27] j e b u [38, 141] j e b (u.1, u.2.1 + 1, u.2.2) 0 [] := fun N pm rp => by
  rw [Int.add_zero]; exact GCS.st (by decide) (fun t a => ⟨t, _, a, if_neg (fun q => absurd ((kdS hS a (c := 44) (by decide)).mpr q) h), rfl⟩)
theorem x38 (hS : SB S)  : GR S [38] j e b u [] j e b u0 2 [(1, u.2.2, u.2.1, u.1)] := fun N pm rp => by
  exact GCS.st (by decide) (fun t a => ⟨t, _, a, rfl, rfl⟩)
theorem x28 (hS : SB S) (h : b ≠ 6) : GR S [28] j e b u [223, 29] j e (b + 1) u 0 [] := fun N pm rp => by
  rw [Int.add_zero]; exact GCS.st (by decide) (fun t a => ⟨t, _, a, if_neg h, rfl⟩)
theorem x28f (hS : SB S) (h : b = 6) : GRF S [28] j e b u (tkS S j).1 := fun N pm rp => GCF.st (by decide) (fun t a => if_pos h)
theorem x29y (hS : SB S) (h : ckd (tkS S j) = 125) : GR S [29] j e b u [40] (j + 1) e b u 0 [] := fun N pm rp => by
  rw [Int.add_zero]; exact GCS.st (by decide) (fun t a => ⟨(advT S t.2.1), _, a.nx, if_pos ((kdS hS a (c := 125) (by decide)).mp h), rfl⟩)
theorem x29n (hS : SB S) (h : ckd (tkS S j) ≠ 125) : GR S [29] j e b u [20, 29] j e b u 0 [] := fun N pm rp => by
  rw [Int.add_zero]; exact GCS.st (by decide) (fun t a => ⟨t, _, a, if_neg (fun q => absurd ((kdS hS a (c := 125) (by decide)).mpr q) h), rfl⟩)
theorem x40 (hS : SB S)  : GR S [40] j e b u [] j e (b - 1) u 0 [] := fun N pm rp => by
  rw [Int.add_zero]; exact GCS.st (by decide) (fun t a => ⟨t, _, a, rfl, rfl⟩)
theorem y41 (hS : SB S) (h : ckd (tkS S j) = 41) : GR S [141] j e b u [] (j + 1) e b u 0 [] := fun N pm rp => by
  rw [Int.add_zero]; exact GCS.st (by decide) (fun t a => ⟨(advT S t.2.1), _, a.nx, if_pos ((kdS hS a (c := 41) (by decide)).mp h), rfl⟩)
theorem z41 (hS : SB S) (h : ckd (tkS S j) ≠ 41) : GRF S [141] j e b u (tkS S j).1 := fun N pm rp => GCF.st (by decide) (fun t a => if_neg (fun q => absurd ((kdS hS a (c := 41) (by decide)).mpr q) h))
theorem y59 (hS : SB S) (h : ckd (tkS S j) = 59) : GR S [159] j e b u [] (j + 1) e b u 0 [] := fun N pm rp => by
  rw [Int.add_zero]; exact GCS.st (by decide) (fun t a => ⟨(advT S t.2.1), _, a.nx, if_pos ((kdS hS a (c := 59) (by decide)).mp h), rfl⟩)
theorem z59 (hS : SB S) (h : ckd (tkS S j) ≠ 59) : GRF S [159] j e b u (tkS S j).1 := fun N pm rp => GCF.st (by decide) (fun t a => if_neg (fun q => absurd ((kdS hS a (c := 59) (by decide)).mpr q) h))
theorem y61 (hS : SB S) (h : ckd (tkS S j) = 61) : GR S [161] j e b u [] (j + 1) e b u 0 [] := fun N pm rp => by
  rw [Int.add_zero]; exact GCS.st (by decide) (fun t a => ⟨(advT S t.2.1), _, a.nx, if_pos ((kdS hS a (c := 61) (by decide)).mp h), rfl⟩)
theorem z61 (hS : SB S) (h : ckd (tkS S j) ≠ 61) : GRF S [161] j e b u (tkS S j).1 := fun N pm rp => GCF.st (by decide) (fun t a => if_neg (fun q => absurd ((kdS hS a (c := 61) (by decide)).mpr q) h))
theorem y123 (hS : SB S) (h : ckd (tkS S j) = 123) : GR S [223] j e b u [] (j + 1) e b u 0 [] := fun N pm rp => by
  rw [Int.add_zero]; exact GCS.st (by decide) (fun t a => ⟨(advT S t.2.1), _, a.nx, if_pos ((kdS hS a (c := 123) (by decide)).mp h), rfl⟩)
theorem z123 (hS : SB S) (h : ckd (tkS S j) ≠ 123) : GRF S [223] j e b u (tkS S j).1 := fun N pm rp => GCF.st (by decide) (fun t a => if_neg (fun q => absurd ((kdS hS a (c := 123) (by decide)).mpr q) h))
end STEPS
section STEPR
variable {S : Int → Int} {j : Nat} {x : Int × Int × Int} {q : QR}
theorem r30 (hS : SB S) (h : ckd (tkS S j) = 256) : GCS S [30] j x q [140, 31] (j + 1) x (q.1, q.2.1, q.2.2.1, 0, (tkS S j).1) [(2, (tkS S j).1, 0, (tkS S j).2.2.2.2)] := GCS.st (by decide) (fun t a => ⟨(advT S t.2.1), _, a.nx, (if_pos ((kdN hS a).mp h)).trans (by rw [a.1]), by show [(2, t.1, 0, t.2.2.2.2)] = _; rw [a.1, a.2.2.2.1]⟩)
theorem r30f (hS : SB S) (h : ckd (tkS S j) ≠ 256) : GCF S [30] j x q (tkS S j).1 := GCF.st (by decide) (fun t a => if_neg (fun z => absurd ((kdN hS a).mpr z) h))
theorem r31y (hS : SB S) (h : ckd (tkS S j) = 41) : GCS S [31] j x q [141, 35] j x q [(7, 0, q.2.2.2.1, 0)] := GCS.st (by decide) (fun t a => ⟨t, _, a, if_pos ((kdS hS a (c := 41) (by decide)).mp h), if_pos ((kdS hS a (c := 41) (by decide)).mp h)⟩)
theorem r31n (hS : SB S) (h : ckd (tkS S j) ≠ 41) : GCS S [31] j x q [32] j x q [] := GCS.st (by decide) (fun t a => ⟨t, _, a, if_neg (fun z => absurd ((kdS hS a (c := 41) (by decide)).mpr z) h), if_neg (fun z => absurd ((kdS hS a (c := 41) (by decide)).mpr z) h)⟩)
theorem r32 (hS : SB S) (h : ckd (tkS S j) = 256) : GCS S [32] j x q [33] (j + 1) x (q.1, q.2.1, q.2.2.1, q.2.2.2.1 + 1, q.2.2.2.2) [(3, (tkS S j).1, q.2.2.2.1, (tkS S j).2.2.2.2)] := GCS.st (by decide) (fun t a => ⟨(advT S t.2.1), _, a.nx, if_pos ((kdN hS a).mp h), by show [(3, t.1, q.2.2.2.1, t.2.2.2.2)] = _; rw [a.1, a.2.2.2.1]⟩)
theorem r32f (hS : SB S) (h : ckd (tkS S j) ≠ 256) : GCF S [32] j x q (tkS S j).1 := GCF.st (by decide) (fun t a => if_neg (fun z => absurd ((kdN hS a).mpr z) h))
theorem r33y (hS : SB S) (h : ckd (tkS S j) = 44) : GCS S [33] j x q [32] (j + 1) x q [] := GCS.st (by decide) (fun t a => ⟨(advT S t.2.1), _, a.nx, if_pos ((kdS hS a (c := 44) (by decide)).mp h), if_pos ((kdS hS a (c := 44) (by decide)).mp h)⟩)
theorem r33n (hS : SB S) (h : ckd (tkS S j) ≠ 44) : GCS S [33] j x q [141, 35] j x q [(7, 0, q.2.2.2.1, 0)] := GCS.st (by decide) (fun t a => ⟨t, _, a, if_neg (fun z => absurd ((kdS hS a (c := 44) (by decide)).mpr z) h), if_neg (fun z => absurd ((kdS hS a (c := 44) (by decide)).mpr z) h)⟩)
theorem r34 (hS : SB S)  : GCS S [34] j x q [] j x (q.1, q.2.1, q.2.2.1, q.2.2.2.1, 0) [(0, q.2.2.2.2, x.2.2, 0)] := GCS.st (by decide) (fun t a => ⟨t, _, a, rfl, rfl⟩)
theorem r35 (hS : SB S)  : GCS S [35] j x q [28, 51, 34] j (x.1, x.2.1, 0) (q.1, q.2.1, q.2.2.1, 0, q.2.2.2.2) [] := GCS.st (by decide) (fun t a => ⟨t, _, a, rfl, rfl⟩)
theorem r36y (hS : SB S) (h : ckd (tkS S j) = 264) : GCS S [36] j x q [] j x q [] := GCS.st (by decide) (fun t a => ⟨t, _, a, if_pos ((kdE hS a).mp h), rfl⟩)
theorem r36n (hS : SB S) (h : ckd (tkS S j) ≠ 264) : GCS S [36] j x q [30, 36] j x q [] := GCS.st (by decide) (fun t a => ⟨t, _, a, if_neg (fun z => absurd ((kdE hS a).mpr z) h), rfl⟩)
theorem r140 (hS : SB S) (h : ckd (tkS S j) = 40) : GCS S [140] j x q [] (j + 1) x q [] := GCS.st (by decide) (fun t a => ⟨(advT S t.2.1), _, a.nx, if_pos ((kdS hS a (c := 40) (by decide)).mp h), rfl⟩)
theorem f140 (hS : SB S) (h : ckd (tkS S j) ≠ 40) : GCF S [140] j x q (tkS S j).1 := GCF.st (by decide) (fun t a => if_neg (fun z => absurd ((kdS hS a (c := 40) (by decide)).mpr z) h))
theorem r141 (hS : SB S) (h : ckd (tkS S j) = 41) : GCS S [141] j x q [] (j + 1) x q [] := GCS.st (by decide) (fun t a => ⟨(advT S t.2.1), _, a.nx, if_pos ((kdS hS a (c := 41) (by decide)).mp h), rfl⟩)
theorem f141 (hS : SB S) (h : ckd (tkS S j) ≠ 41) : GCF S [141] j x q (tkS S j).1 := GCF.st (by decide) (fun t a => if_neg (fun z => absurd ((kdS hS a (c := 41) (by decide)).mpr z) h))
end STEPR
end
section
def KW (v : Int) (w : Int64) : Prop := ∃ l, LTR l ∧ l.length ≤ 6 ∧ v = k5 l ∧ w = Int64.ofInt (w8 l)
theorem KW.rg {v : Int} {w : Int64} (h : KW v w) : 0 ≤ v ∧ v < 1073741824 := by
  obtain ⟨l, a, b, c, d⟩ := h
  have x := k5_0 l a
  have y := k5_b 6 l a b
  rw [show (32 : Int) ^ 6 = 1073741824 by decide] at y
  rw [c]; exact ⟨x, y⟩
theorem KW.eq {v v2 : Int} {w w2 : Int64} (h : KW v w) (g : KW v2 w2) : v = v2 ↔ w = w2 := by
  have r1 := h.rg
  have r2 := g.rg
  obtain ⟨l, a, b, c, d⟩ := h
  obtain ⟨m, a2, b2, c2, d2⟩ := g
  rw [d, d2, ← kw_iff a a2 b b2, ← c, ← c2]
  exact (iI_eq ⟨by omega, by omega⟩ ⟨by omega, by omega⟩).symm
theorem NKY.kw {t : TK} {v : Int} (h : NKY t v) (ht : t.2.2.1 = 2) : KW v t.2.2.2.2 := h.1 ht
def TEN (S : Int → Int) (n : Nat) : Prop := (∀ i : Nat, i < n → ckd (tkS S i) ≠ 263 ∧ ckd (tkS S i) ≠ 264) ∧ (ckd (tkS S n) = 263 ∨ ckd (tkS S n) = 264)
def TRW (σ : MS) (t : Nat) (S : Int → Int) (n : Nat) : Prop := ∀ k u p : Nat, σ.2.1 81 t = (k : Int) → σ.2.1 82 t = (u : Int) → σ.2.1 83 t = (p : Int) → ∀ i : Nat, i ≤ n → σ.2.1 (1000 + k) i = ckd (tkS S i) ∧ NKY (tkS S i) (σ.2.1 (1000 + u) i) ∧ σ.2.1 (1000 + p) i = (tkS S i).1
def TKT (σ : MS) (t : Nat) (S : Int → Int) (n j : Nat) : Prop := (j ≤ n ∧ n ≤ 1200 ∧ σ.2.1 84 t = (j : Int)) ∧ (σ.2.1 85 t = ckd (tkS S j) ∧ NKY (tkS S j) (σ.2.1 86 t) ∧ σ.2.1 87 t = (tkS S j).1) ∧ TRW σ t S n ∧ TEN S n
def TKR (σ : MS) (a : Nat) (S : Int → Int) (n j : Nat) : Prop := SB S ∧ ∀ t : Nat, σ.2.1 33 a = (t : Int) → TKT σ t S n j
def CS0 (σ : MS) (a : Nat) (c : CS) : Prop := (σ.2.1 43 a = c.fp.1 ∧ σ.2.1 44 a = c.fp.2 ∧ σ.2.1 38 a = c.rn ∧ σ.2.1 42 a = c.cn ∧ σ.2.1 45 a = c.m) ∧ (∀ x : Nat, σ.2.1 36 a = (x : Int) → ∀ i, 0 ≤ i → i < c.rn → KW (σ.2.1 (1000 + x) i) (c.rk i)) ∧ (∀ x : Nat, σ.2.1 37 a = (x : Int) → ∀ i, 0 ≤ i → i < c.rn → σ.2.1 (1000 + x) i = c.rp i) ∧ (∀ x : Nat, σ.2.1 39 a = (x : Int) → ∀ i, 0 ≤ i → i < c.cn → KW (σ.2.1 (1000 + x) i) (c.ck i)) ∧ (∀ x : Nat, σ.2.1 40 a = (x : Int) → ∀ i, 0 ≤ i → i < c.cn → σ.2.1 (1000 + x) i = c.cp i) ∧ (∀ x : Nat, σ.2.1 41 a = (x : Int) → ∀ i, 0 ≤ i → i < c.cn → σ.2.1 (1000 + x) i = c.cc i)
def NMR (σ : MS) (a : Nat) (c : CS) : Prop := (∀ d : Nat, σ.2.1 35 a = (d : Int) → σ.2.1 7 d = c.nn) ∧ (∀ x : Nat, σ.2.1 48 a = (x : Int) → ∀ i, 0 ≤ i → i < c.nn → KW (σ.2.1 (1000 + x) i) (c.nk i))
def PO (j : Nat) (c : CS) : Prop := 6 * c.cn ≤ (j : Int) ∧ 5 * c.rn ≤ (j : Int) + 5 ∧ 0 ≤ c.m ∧ c.m ≤ (j : Int) + 1
def RD0 (σ : MS) (a : Nat) (S : Int → Int) (n j : Nat) (c : CS) : Prop := TKR σ a S n j ∧ CS0 σ a c ∧ PO j c
def CNT (σ : MS) (a : Nat) (N : Int) : Prop := ∀ d : Nat, σ.2.1 35 a = (d : Int) → σ.2.1 6 d = N
def RDX (σ : MS) (a : Nat) (S : Int → Int) (n j : Nat) (c : CS) (N : Int) : Prop := RD0 σ a S n j c ∧ NMR σ a c ∧ CNT σ a N
def FLC (σ : MS) (a : Nat) (p : Int) : Prop := σ.2.1 43 a = 1 ∧ σ.2.1 44 a = p
abbrev RDL : List Nat := [33, 35, 36, 37, 38, 39, 40, 41, 42, 43, 44, 45, 48, 6, 7, 81, 82, 83, 84, 85, 86, 87]
abbrev RHL : List Nat := [512, 516, 517, 518, 519, 520, 521, 522, 523]
section RDXS
variable {T : CT} {σ τ : MS} {a t n j k d x : Nat} {c : CS} {N z v : Int} {S : Int → Int} {ks : List Nat}
theorem TKT.cg (h : TKT σ t S n j) (hf : ∀ k ∈ [81, 82, 83, 84, 85, 86, 87], τ.2.1 k = σ.2.1 k) (hr : ∀ x : Nat, (σ.2.1 81 t = (x : Int) ∨ σ.2.1 82 t = (x : Int) ∨ σ.2.1 83 t = (x : Int)) → τ.2.1 (1000 + x) = σ.2.1 (1000 + x)) : TKT τ t S n j := by
  obtain ⟨h1, h2, h3, h4⟩ := h
  refine ⟨?_, ?_, fun k u p hk hu hp i hi => ?_, h4⟩
  · rw [hf 84 (by decide)]; exact h1
  · rw [hf 85 (by decide), hf 86 (by decide), hf 87 (by decide)]; exact h2
  · rw [hf 81 (by decide)] at hk
    rw [hf 82 (by decide)] at hu
    rw [hf 83 (by decide)] at hp
    rw [hr k (Or.inl hk), hr u (Or.inr (Or.inl hu)), hr p (Or.inr (Or.inr hp))]
    exact h3 k u p hk hu hp i hi
theorem TKR.cg (h : TKR σ a S n j) (hf : ∀ k ∈ [33, 81, 82, 83, 84, 85, 86, 87], τ.2.1 k = σ.2.1 k) (hr : ∀ t x : Nat, σ.2.1 33 a = (t : Int) → (σ.2.1 81 t = (x : Int) ∨ σ.2.1 82 t = (x : Int) ∨ σ.2.1 83 t = (x : Int)) → τ.2.1 (1000 + x) = σ.2.1 (1000 + x)) : TKR τ a S n j := ⟨h.1, fun t ht => by
  rw [hf 33 (by decide)] at ht
  exact (h.2 t ht).cg (fun k hk => hf k (List.mem_cons_of_mem _ hk)) (fun x hx => hr t x ht hx)⟩
theorem CS0.cg (h : CS0 σ a c) (hf : ∀ k ∈ [36, 37, 38, 39, 40, 41, 42, 43, 44, 45], τ.2.1 k = σ.2.1 k) (hr : ∀ k ∈ [36, 37, 39, 40, 41], ∀ x : Nat, σ.2.1 k a = (x : Int) → τ.2.1 (1000 + x) = σ.2.1 (1000 + x)) : CS0 τ a c := by
  obtain ⟨h1, h2, h3, h4, h5, h6⟩ := h
  refine ⟨?_, fun x q => ?_, fun x q => ?_, fun x q => ?_, fun x q => ?_, fun x q => ?_⟩
  · rw [hf 43 (by decide), hf 44 (by decide), hf 38 (by decide), hf 42 (by decide), hf 45 (by decide)]; exact h1
  · rw [hf 36 (by decide)] at q; rw [hr 36 (by decide) x q]; exact h2 x q
  · rw [hf 37 (by decide)] at q; rw [hr 37 (by decide) x q]; exact h3 x q
  · rw [hf 39 (by decide)] at q; rw [hr 39 (by decide) x q]; exact h4 x q
  · rw [hf 40 (by decide)] at q; rw [hr 40 (by decide) x q]; exact h5 x q
  · rw [hf 41 (by decide)] at q; rw [hr 41 (by decide) x q]; exact h6 x q
theorem NMR.cg (h : NMR σ a c) (hf : ∀ k ∈ [35, 7, 48], τ.2.1 k = σ.2.1 k) (hr : ∀ x : Nat, σ.2.1 48 a = (x : Int) → τ.2.1 (1000 + x) = σ.2.1 (1000 + x)) : NMR τ a c := by
  refine ⟨fun d q => ?_, fun x q => ?_⟩
  · rw [hf 35 (by decide)] at q; rw [hf 7 (by decide)]; exact h.1 d q
  · rw [hf 48 (by decide)] at q; rw [hr x q]; exact h.2 x q
theorem CNT.cg (h : CNT σ a N) (h1 : τ.2.1 35 = σ.2.1 35) (h2 : τ.2.1 6 = σ.2.1 6) : CNT τ a N := fun d q => by rw [h1] at q; rw [h2]; exact h d q
theorem row_f {q lo hi : Nat} (f : FrC T ks σ τ) (hy : ∃ y : Nat, σ.2.1 k a = (y : Int) ∧ AR T y q lo hi) (hq : HT q) (hn : 500 + q ∉ ks) (hx : σ.2.1 k a = (x : Int)) : τ.2.1 (1000 + x) = σ.2.1 (1000 + x) := by
  obtain ⟨y, h1, h2, -⟩ := hy
  have e : x = y := by omega
  rw [e]
  exact f.2 y (by rw [h2]; exact hq) (by rw [h2]; exact hn)
theorem rows5 (hw : WT T σ) (ha : OB T a 5) (f : FrC T ks σ τ) (h16 : 516 ∉ ks) (h17 : 517 ∉ ks) (h18 : 518 ∉ ks) (h19 : 519 ∉ ks) (h20 : 520 ∉ ks) : ∀ k ∈ [36, 37, 39, 40, 41], ∀ x : Nat, σ.2.1 k a = (x : Int) → τ.2.1 (1000 + x) = σ.2.1 (1000 + x) := fun k hk x hx => by
  simp only [List.mem_cons, List.not_mem_nil, or_false] at hk
  rcases hk with rfl | rfl | rfl | rfl | rfl
  · exact row_f f (wf_36 hw ha) (by unfold HT; omega) h16 hx
  · exact row_f f (wf_37 hw ha) (by unfold HT; omega) h17 hx
  · exact row_f f (wf_39 hw ha) (by unfold HT; omega) h18 hx
  · exact row_f f (wf_40 hw ha) (by unfold HT; omega) h19 hx
  · exact row_f f (wf_41 hw ha) (by unfold HT; omega) h20 hx
theorem rowsT (hw : WT T σ) (ht : OB T t 9) (f : FrC T ks σ τ) (h12 : 512 ∉ ks) (h22 : 522 ∉ ks) (h23 : 523 ∉ ks) : ∀ x : Nat, (σ.2.1 81 t = (x : Int) ∨ σ.2.1 82 t = (x : Int) ∨ σ.2.1 83 t = (x : Int)) → τ.2.1 (1000 + x) = σ.2.1 (1000 + x) := fun x hx => by
  rcases hx with hx | hx | hx
  · exact row_f f (wf_81 hw ht) (by unfold HT; omega) h12 hx
  · exact row_f f (wf_82 hw ht) (by unfold HT; omega) h22 hx
  · exact row_f f (wf_83 hw ht) (by unfold HT; omega) h23 hx
theorem tok_ob (hw : WT T σ) (ha : OB T a 5) (ht : σ.2.1 33 a = (t : Int)) : OB T t 9 := by
  obtain ⟨y, h1, h2⟩ := wf_33 hw ha
  have e : t = y := by omega
  rw [e]; exact ⟨by omega, by rw [h2]; rfl, by omega⟩
theorem code_ob (hw : WT T σ) (ha : OB T a 5) (ht : σ.2.1 35 a = (t : Int)) : OB T t 1 := by
  obtain ⟨y, h1, h2⟩ := wf_35 hw ha
  have e : t = y := by omega
  rw [e]; exact ⟨by omega, by rw [h2]; rfl, by omega⟩
theorem TKR.fc (h : TKR σ a S n j) (hw : WT T σ) (ha : OB T a 5) (f : FrC T ks σ τ) (hk : ∀ k ∈ [33, 81, 82, 83, 84, 85, 86, 87], k ∉ ks) (hr : ∀ k ∈ [512, 522, 523], k ∉ ks) : TKR τ a S n j := h.cg (fun k q => f.1 k (Or.inl ((by decide : ∀ k ∈ [33, 81, 82, 83, 84, 85, 86, 87], k < 200) k q)) (hk k q)) (fun t x ht => rowsT hw (tok_ob hw ha ht) f (hr 512 (by decide)) (hr 522 (by decide)) (hr 523 (by decide)) x)
theorem CS0.fc (h : CS0 σ a c) (hw : WT T σ) (ha : OB T a 5) (f : FrC T ks σ τ) (hk : ∀ k ∈ [36, 37, 38, 39, 40, 41, 42, 43, 44, 45], k ∉ ks) (hr : ∀ k ∈ [516, 517, 518, 519, 520], k ∉ ks) : CS0 τ a c := h.cg (fun k q => f.1 k (Or.inl ((by decide : ∀ k ∈ [36, 37, 38, 39, 40, 41, 42, 43, 44, 45], k < 200) k q)) (hk k q)) (rows5 hw ha f (hr 516 (by decide)) (hr 517 (by decide)) (hr 518 (by decide)) (hr 519 (by decide)) (hr 520 (by decide)))
theorem NMR.fc (h : NMR σ a c) (hw : WT T σ) (ha : OB T a 5) (f : FrC T ks σ τ) (hk : ∀ k ∈ [35, 7, 48], k ∉ ks) (hr : 521 ∉ ks) : NMR τ a c := h.cg (fun k q => f.1 k (Or.inl ((by decide : ∀ k ∈ [35, 7, 48], k < 200) k q)) (hk k q)) (fun x hx => row_f f (wf_48 hw ha) (by unfold HT; omega) hr hx)
theorem CNT.fc (h : CNT σ a N) (f : FrC T ks σ τ) (h1 : 35 ∉ ks) (h2 : 6 ∉ ks) : CNT τ a N := h.cg (f.1 35 (Or.inl (by decide)) h1) (f.1 6 (Or.inl (by decide)) h2)
theorem RD0.fc (h : RD0 σ a S n j c) (hw : WT T σ) (ha : OB T a 5) (f : FrC T ks σ τ) (hk : ∀ k ∈ RDL, k ∉ [6, 7, 35, 48] → k ∉ ks) (hr : ∀ k ∈ RHL, k ≠ 521 → k ∉ ks) : RD0 τ a S n j c := ⟨h.1.fc hw ha f (fun k q => hk k ((by decide : ∀ k ∈ [33, 81, 82, 83, 84, 85, 86, 87], k ∈ RDL) k q) ((by decide : ∀ k ∈ [33, 81, 82, 83, 84, 85, 86, 87], k ∉ [6, 7, 35, 48]) k q)) (fun k q => hr k ((by decide : ∀ k ∈ [512, 522, 523], k ∈ RHL) k q) ((by decide : ∀ k ∈ [512, 522, 523], k ≠ 521) k q)), h.2.1.fc hw ha f (fun k q => hk k ((by decide : ∀ k ∈ [36, 37, 38, 39, 40, 41, 42, 43, 44, 45], k ∈ RDL) k q) ((by decide : ∀ k ∈ [36, 37, 38, 39, 40, 41, 42, 43, 44, 45], k ∉ [6, 7, 35, 48]) k q)) (fun k q => hr k ((by decide : ∀ k ∈ [516, 517, 518, 519, 520], k ∈ RHL) k q) ((by decide : ∀ k ∈ [516, 517, 518, 519, 520], k ≠ 521) k q)), h.2.2⟩
theorem RDX.fc (h : RDX σ a S n j c N) (hw : WT T σ) (ha : OB T a 5) (f : FrC T ks σ τ) (hk : ∀ k ∈ RDL, k ∉ ks) (hr : ∀ k ∈ RHL, k ∉ ks) : RDX τ a S n j c N := ⟨h.1.fc hw ha f (fun k q _ => hk k q) (fun k q _ => hr k q), h.2.1.fc hw ha f (fun k q => hk k ((by decide : ∀ k ∈ [35, 7, 48], k ∈ RDL) k q)) (hr 521 (by decide)), h.2.2.fc f (hk 35 (by decide)) (hk 6 (by decide))⟩
theorem RDX.pt (h : RDX σ a S n j c N) (hk : k ∉ RDL) (h2 : k < 200) : RDX (sA k z v σ) a S n j c N := by
  have e : ∀ m ∈ RDL, (sA k z v σ).2.1 m = σ.2.1 m := fun m q => sA_k (fun w => hk (w ▸ q))
  have r : ∀ x : Nat, (sA k z v σ).2.1 (1000 + x) = σ.2.1 (1000 + x) := fun x => sA_k (by omega)
  exact ⟨⟨h.1.1.cg (fun m q => e m ((by decide : ∀ k ∈ [33, 81, 82, 83, 84, 85, 86, 87], k ∈ RDL) m q)) (fun _ x _ _ => r x), h.1.2.1.cg (fun m q => e m ((by decide : ∀ k ∈ [36, 37, 38, 39, 40, 41, 42, 43, 44, 45], k ∈ RDL) m q)) (fun _ _ x _ => r x), h.1.2.2⟩, h.2.1.cg (fun m q => e m ((by decide : ∀ k ∈ [35, 7, 48], k ∈ RDL) m q)) (fun x _ => r x), h.2.2.cg (e 35 (by decide)) (e 6 (by decide))⟩
abbrev RD0L : List Nat := [33, 36, 37, 38, 39, 40, 41, 42, 43, 44, 45, 81, 82, 83, 84, 85, 86, 87]
theorem RD0.pt (h : RD0 σ a S n j c) (hk : k ∉ RD0L) (h2 : k < 200) : RD0 (sA k z v σ) a S n j c := by
  have e : ∀ m ∈ RD0L, (sA k z v σ).2.1 m = σ.2.1 m := fun m q => sA_k (fun w => hk (w ▸ q))
  have r : ∀ x : Nat, (sA k z v σ).2.1 (1000 + x) = σ.2.1 (1000 + x) := fun x => sA_k (by omega)
  exact ⟨h.1.cg (fun m q => e m ((by decide : ∀ k ∈ [33, 81, 82, 83, 84, 85, 86, 87], k ∈ RD0L) m q)) (fun _ x _ _ => r x), h.2.1.cg (fun m q => e m ((by decide : ∀ k ∈ [36, 37, 38, 39, 40, 41, 42, 43, 44, 45], k ∈ RD0L) m q)) (fun _ _ x _ => r x), h.2.2⟩
theorem TRW.pt (h : TRW σ t S n) (hk : k ≠ 81 ∧ k ≠ 82 ∧ k ≠ 83 ∧ k < 200) : TRW (sA k z v σ) t S n := fun x u p h1 h2 h3 i hi => by
  rw [sA_k (by omega)] at h1
  rw [sA_k (by omega)] at h2
  rw [sA_k (by omega)] at h3
  rw [sA_k (by omega), sA_k (by omega), sA_k (by omega)]
  exact h x u p h1 h2 h3 i hi
theorem TKR.pt (h : TKR σ a S n j) (hk : k ∉ [33, 81, 82, 83, 84, 85, 86, 87]) (h2 : k < 200) : TKR (sA k z v σ) a S n j := h.cg (fun m q => sA_k (fun w => hk (w ▸ q))) (fun _ x _ _ => sA_k (by omega))
theorem RD0.tk (h : RD0 σ a S n j c) (ht : σ.2.1 33 a = (t : Int)) : TKT σ t S n j := h.1.2 t ht
theorem RD0.kd (h : RD0 σ a S n j c) (ht : σ.2.1 33 a = (t : Int)) : σ.2.1 85 t = ckd (tkS S j) := (h.tk ht).2.1.1
theorem RD0.ky (h : RD0 σ a S n j c) (ht : σ.2.1 33 a = (t : Int)) : NKY (tkS S j) (σ.2.1 86 t) := (h.tk ht).2.1.2.1
theorem RD0.pl (h : RD0 σ a S n j c) (ht : σ.2.1 33 a = (t : Int)) : σ.2.1 87 t = (tkS S j).1 := (h.tk ht).2.1.2.2
theorem RD0.sb (h : RD0 σ a S n j c) : SB S := h.1.1
theorem RD0.jn (h : RD0 σ a S n j c) (hw : WT T σ) (ha : OB T a 5) : (j : Int) ≤ n ∧ (n : Int) ≤ 1200 := by
  obtain ⟨t, ht, -⟩ := wf_33 hw ha
  have q := (h.tk ht).1
  omega
theorem RDX.jn (h : RDX σ a S n j c N) (hw : WT T σ) (ha : OB T a 5) : (j : Int) ≤ n ∧ (n : Int) ≤ 1200 := h.1.jn hw ha
theorem RDX.nq {M : Int} (h : RDX σ a S n j c N) (e : N = M) : RDX σ a S n j c M := by rw [← e]; exact h
theorem RDX.cq {c2 : CS} (h : RDX σ a S n j c N) (e : c = c2) : RDX σ a S n j c2 N := by rw [← e]; exact h
theorem RD0.nx (h : RD0 σ a S n j c) (hw : WT T σ) (ha : OB T a 5) (ht : σ.2.1 33 a = (t : Int)) (f : FrC T [84, 85, 86, 87] σ τ) (q : TKT τ t S n (j + 1)) : RD0 τ a S n (j + 1) c := by
  refine ⟨⟨h.1.1, fun t2 ht2 => ?_⟩, h.2.1.fc hw ha f (by decide) (by decide), ?_⟩
  · rw [f.1 33 (Or.inl (by decide)) (by decide)] at ht2
    have e : t2 = t := by omega
    rw [e]; exact q
  · have w := h.2.2
    unfold PO at w ⊢
    omega
theorem RDX.nx (h : RDX σ a S n j c N) (hw : WT T σ) (ha : OB T a 5) (ht : σ.2.1 33 a = (t : Int)) (f : FrC T [84, 85, 86, 87] σ τ) (q : TKT τ t S n (j + 1)) : RDX τ a S n (j + 1) c N := ⟨h.1.nx hw ha ht f q, h.2.1.fc hw ha f (by decide) (by decide), h.2.2.fc f (by decide) (by decide)⟩
theorem RDX.ap (h : RDX σ a S n j c N) (hw : WT T σ) (ha : OB T a 5) (hc : σ.2.1 35 a = (d : Int)) (f : FrC T [5, 6] σ τ) (h6 : τ.2.1 6 d = σ.2.1 6 d + 1) : RDX τ a S n j c (N + 1) := ⟨h.1.fc hw ha f (by decide) (by decide), h.2.1.fc hw ha f (by decide) (by decide), fun d2 q => by
  rw [f.1 35 (Or.inl (by decide)) (by decide)] at q
  have e : d2 = d := by omega
  rw [e, h6, h.2.2 d hc]⟩
end RDXS
def NTQ (σ τ : MS) (a : Nat) (f p : Int) : Prop := (τ.2.1 43 a, τ.2.1 44 a) = cntN f p (σ.2.1 43 a, σ.2.1 44 a)
def fpC (x : FP) (c : CS) : CS := CS.mk x c.rn c.rk c.rp c.cn c.ck c.cp c.cc c.nn c.nk c.m
section NTS
variable {T : CT} {σ τ : MS} {a n j : Nat} {c : CS} {N f p : Int} {S : Int → Int}
theorem CS0.fp2 (h : CS0 σ a c) : (σ.2.1 43 a, σ.2.1 44 a) = c.fp := by rw [h.1.1, h.1.2.1]
theorem RD0.nt (h : RD0 σ a S n j c) (hw : WT T σ) (ha : OB T a 5) (fr : FrC T [43, 44] σ τ) (q : NTQ σ τ a f p) : RD0 τ a S n j (fpC (cntN f p c.fp) c) := by
  obtain ⟨h1, h2, h3⟩ := h
  refine ⟨h1.fc hw ha fr (by decide) (by decide), ?_, h3⟩
  unfold NTQ at q
  rw [h2.fp2] at q
  have q1 : τ.2.1 43 a = (cntN f p c.fp).1 := congrArg Prod.fst q
  have q2 : τ.2.1 44 a = (cntN f p c.fp).2 := congrArg Prod.snd q
  have g : ∀ k ∈ [36, 37, 38, 39, 40, 41, 42, 45], τ.2.1 k = σ.2.1 k := fun k w => fr.1 k (Or.inl ((by decide : ∀ k ∈ [36, 37, 38, 39, 40, 41, 42, 45], k < 200) k w)) ((by decide : ∀ k ∈ [36, 37, 38, 39, 40, 41, 42, 45], k ∉ [43, 44]) k w)
  have r := rows5 hw ha fr (by decide) (by decide) (by decide) (by decide) (by decide)
  obtain ⟨⟨_, _, e3, e4, e5⟩, k2, k3, k4, k5, k6⟩ := h2
  refine ⟨⟨q1, q2, by rw [g 38 (by decide)]; exact e3, by rw [g 42 (by decide)]; exact e4, by rw [g 45 (by decide)]; exact e5⟩, fun x w => ?_, fun x w => ?_, fun x w => ?_, fun x w => ?_, fun x w => ?_⟩
  · rw [g 36 (by decide)] at w; rw [r 36 (by decide) x w]; exact k2 x w
  · rw [g 37 (by decide)] at w; rw [r 37 (by decide) x w]; exact k3 x w
  · rw [g 39 (by decide)] at w; rw [r 39 (by decide) x w]; exact k4 x w
  · rw [g 40 (by decide)] at w; rw [r 40 (by decide) x w]; exact k5 x w
  · rw [g 41 (by decide)] at w; rw [r 41 (by decide) x w]; exact k6 x w
theorem RDX.nt (h : RDX σ a S n j c N) (hw : WT T σ) (ha : OB T a 5) (fr : FrC T [43, 44] σ τ) (q : NTQ σ τ a f p) : RDX τ a S n j (fpC (cntN f p c.fp) c) N := ⟨h.1.nt hw ha fr q, h.2.1.fc hw ha fr (by decide) (by decide), h.2.2.fc fr (by decide) (by decide)⟩
end NTS
end
