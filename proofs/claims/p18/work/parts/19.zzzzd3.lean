section
def lnJ (W : Int → It) (n : Int) (Rh : Int → Int) (id r : Int) : Prop := ¬ id < 6 ∧ ((id < 10 ∧ Rh (id - 6) = r) ∨ (10 ≤ id ∧ lnW W n (id - 10) r))
def smW (W : Int → It) (f k : Int) : Prop := W f 0 = 12 ∧ W f 11 = W k 11 ∧ W f 3 = W k 3 ∧ W f 4 = W k 4 ∧ W f 5 = W k 5 ∧ W f 6 = W k 6
def NBW (W : Int → It) (Rh : Int → Int) (P k id : Int) : Prop := (10 ≤ W k 11 ∧ id = W k 11 - 10) ∨ (¬ 10 ≤ W k 11 ∧ ((W k 11 = 1 ∧ W k 4 = 0 ∧ id = 5) ∨ (¬ (W k 11 = 1 ∧ W k 4 = 0) ∧ ((W k 11 = 2 ∧ ∃ q, (0 ≤ q ∧ q < P) ∧ Rh q = W k 4 ∧ id = 6 + q) ∨ ((W k 11 = 2 → ∀ q, 0 ≤ q → q < P → Rh q ≠ W k 4) ∧ ∃ f, (0 ≤ f ∧ f ≤ k) ∧ (f = k ∨ smW W f k) ∧ id = 10 + f ∧ ∀ j, 0 ≤ j → j < f → ¬ smW W j k)))))
def NBX (W : Int → It) (Rh : Int → Int) (P k : Int) (R R2 : Int → Int) : Prop := (W k 0 ≠ 12 ∧ R2 = R) ∨ (W k 0 = 12 ∧ ∃ id, NBW W Rh P k id ∧ R2 = uZ R k id)
def SWQ (W : Int → It) (k j v : Int) : Prop := (v = 1 ∧ W k 11 = W j 11 ∧ W k 3 = W j 3 ∧ W k 4 = W j 4 ∧ W k 5 = W j 5 ∧ W k 6 = W j 6) ∨ (v = 0 ∧ ¬ (W k 11 = W j 11 ∧ W k 3 = W j 3 ∧ W k 4 = W j 4 ∧ W k 5 = W j 5 ∧ W k 6 = W j 6))
end
