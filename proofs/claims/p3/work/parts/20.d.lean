section TNX
variable {d : Nat} {M : MT} {pc : Nat} {T : CT} {σ : MS} {L : List (Nat × Value)} {st : List Value} {post : Option Value → MS → Prop} {a : Nat}
/-- int[] -/
def IA (T : CT) (x : Nat) : Prop := (T x).1 = 1 ∨ (T x).1 = 11
theorem tn_ialdX {z : Int} (hw : WT T σ) (hd : decode M.2.1 pc = .ok (.iaload, 1)) (ha : IA T a) (h0 : 0 ≤ z) (h1 : z < ((T a).2 : Int)) (hn : (T a).2 ≤ 2147483647) (kk : ∀ v, -2147483648 ≤ v ∧ v ≤ 2147483647 → ((T a).1 = 11 → 0 ≤ v ∧ v ≤ 12) → Tn d M (pc + 1) T σ L (.int (iI v) :: st) post) : Tn d M pc T σ L (.int (iI z) :: .ref a :: st) post :=
  tn_iald hd ha h0 h1 hn rfl (kk _ (hw.2.2.2.2 _ _) (fun q => hw.2.2.1.1 a q z))
theorem tn_baldX {z : Int} (hw : WT T σ) (hd : decode M.2.1 pc = .ok (.baload, 1)) (ha : (T a).1 = 2) (h0 : 0 ≤ z) (h1 : z < ((T a).2 : Int)) (hn : (T a).2 ≤ 2147483647) (kk : ∀ v, -2147483648 ≤ v ∧ v ≤ 2147483647 → Tn d M (pc + 1) T σ L (.int (iI v) :: st) post) : Tn d M pc T σ L (.int (iI z) :: .ref a :: st) post :=
  tn_bald hd ha h0 h1 hn rfl (kk _ (hw.2.2.2.2 _ _))
theorem tn_laldX {z : Int} (hd : decode M.2.1 pc = .ok (.laload, 1)) (ha : (T a).1 = 3) (h0 : 0 ≤ z) (h1 : z < ((T a).2 : Int)) (hn : (T a).2 ≤ 2147483647) (kk : ∀ v, Tn d M (pc + 1) T σ L (.long v :: st) post) : Tn d M pc T σ L (.int (iI z) :: .ref a :: st) post :=
  tn_lald hd ha h0 h1 hn rfl (kk _)
theorem tn_alenX (hd : decode M.2.1 pc = .ok (.arraylength, 1)) (ha : IA T a ∨ (T a).1 = 2 ∨ (T a).1 = 3 ∨ (T a).1 = 4 ∨ (T a).1 = 5 ∨ (T a).1 = 7) (kk : Tn d M (pc + 1) T σ L (.int (iI ((T a).2 : Int)) :: st) post) : Tn d M pc T σ L (.ref a :: st) post := by
  rcases ha with h | h | h | h | h | h
  · exact tn_alen hd (fun P0 => ovC_i h) rfl kk
  · exact tn_alen hd (fun P0 => ovC_b h) rfl kk
  · exact tn_alen hd (fun P0 => ovC_l h) rfl kk
  · exact tn_alen hd (fun P0 => ovC_q (Or.inl h)) rfl kk
  · exact tn_alen hd (fun P0 => ovC_q (Or.inr h)) rfl kk
  · exact tn_alen hd (fun P0 => ovC_m h) rfl kk
theorem tn_longX {w : Int64} (kk : ∀ v, Tn d M pc T σ L (.long v :: st) post) : Tn d M pc T σ L (.long w :: st) post := kk w
end TNX

