section
def GT1 (W : Int → It) (n : Int) (Rh TB : Int → Int) (r i : Int) (S : Int → Int) : Prop := ∀ z, 0 ≤ z → z < i → ((r ≠ -1 ∧ lnJ W n Rh (TB z) r) ∧ S z = 3) ∨ (¬ (r ≠ -1 ∧ lnJ W n Rh (TB z) r) ∧ S z = TB z)
theorem GT1.put {W : Int → It} {n r i v : Int} {Rh TB S S2 : Int → Int} (h : GT1 W n Rh TB r i S) (e : S2 = uZ S i v) (hv : ((r ≠ -1 ∧ lnJ W n Rh (TB i) r) ∧ v = 3) ∨ (¬ (r ≠ -1 ∧ lnJ W n Rh (TB i) r) ∧ v = TB i)) : GT1 W n Rh TB r (i + 1) S2 := fun z a b => by
  rw [e]
  by_cases q : z = i
  · rw [q, uZ_eq]; exact hv
  · rw [uZ_ne q]; exact h z a (by omega)
def GT2 (S0 S : Int → Int) (b i : Int) : Prop := ∀ z, S z = if b ≤ z ∧ z < b + i then 1 else S0 z
theorem GT2.z {S : Int → Int} {b : Int} : GT2 S S b 0 := fun z => (if_neg (by omega)).symm
theorem GT2.put {S0 S S2 : Int → Int} {b i u : Int} (h : GT2 S0 S b i) (h0 : 0 ≤ i) (hu : u = b + i) (e : S2 = uZ S u 1) : GT2 S0 S2 b (i + 1) := fun z => by
  rw [e, hu]
  by_cases q : z = b + i
  · rw [q, uZ_eq, if_pos (by omega)]
  · rw [uZ_ne q, h z]
    by_cases w : b ≤ z ∧ z < b + i
    · rw [if_pos w, if_pos (by omega)]
    · rw [if_neg w, if_neg (by omega)]
def GTX (W : Int → It) (n wd : Int) (Rh Rn B : Int → Int) (k : Int) (R R2 : Int → Int) (c0 ch : Int) : Prop := (R (k * wd) = 0 ∧ R2 = R ∧ ch = c0) ∨ (R (k * wd) ≠ 0 ∧ ∃ (r : Int) (S1 S2 S3 R1 : Int → Int) (c1 f t : Int), WBQ W n k r ∧ GT1 W n Rh (fun z => R (k * wd + z)) r wd S1 ∧ ((W k 0 = 12 ∧ S2 = uZ S1 (slF Rn (W k 2) + W k 1) (B k)) ∨ (W k 0 ≠ 12 ∧ S2 = S1)) ∧ ((W k 0 = 15 ∧ GT2 S2 S3 (slF Rn (W k 1)) (Rn (W k 1))) ∨ (W k 0 ≠ 15 ∧ S3 = S2)) ∧ FLQ W n k f ∧ TGQ W n k t ∧ ((f = 1 ∧ CMT n wd (k + 1) R R1 S3 c0 c1) ∨ (f = 0 ∧ R1 = R ∧ c1 = c0)) ∧ CMT n wd t R1 R2 S3 c1 ch)
theorem GT2.zero {S0 S : Int → Int} {b : Int} (h : GT2 S0 S b 0) : S = S0 := by
  funext z
  rw [h z, if_neg (by omega)]
end
