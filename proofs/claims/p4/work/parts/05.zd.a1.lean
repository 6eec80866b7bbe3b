section STEPS
variable {S : Int → Int} {j : Nat} {e b : Int} {u : UR}
theorem x0m (hS : SB S) (h : ckd (tkS S j) = 45) : GR S [0] j e b u [1, 51] (j + 1) e b u 0 [] := fun N pm rp => by
  rw [Int.add_zero]; exact GCS.st (by decide) (fun t a => ⟨(advT S t.2.1), _, a.nx, if_pos ((kdS hS a (c := 45) (by decide)).mp h), rfl⟩)
theorem x0n (hS : SB S) (h : ckd (tkS S j) ≠ 45) : GR S [0] j e b u [1] j e b u 0 [] := fun N pm rp => by
  rw [Int.add_zero]; exact GCS.st (by decide) (fun t a => ⟨t, _, a, if_neg (fun q => absurd ((kdS hS a (c := 45) (by decide)).mpr q) h), rfl⟩)
theorem x1d (hS : SB S) (h : ckd (tkS S j) = 257) : GR S [1] j e b u [] (j + 1) e b u 0 [] := fun N pm rp => by
  rw [Int.add_zero]; exact GCS.st (by decide) (fun t a => ⟨(advT S t.2.1), _, a.nx, if_pos (Or.inl ((kd3 hS a).mp h)), if_neg (fun q => absurd ((kdN hS a).mpr q) (by rw [h]; decide))⟩)
theorem x1w (hS : SB S) (h : ckd (tkS S j) = 256) : GR S [1] j e b u [] (j + 1) e b u 0 [(4, (tkS S j).1, 0, (tkS S j).2.2.2.2)] := fun N pm rp => by
  rw [Int.add_zero]; exact GCS.st (by decide) (fun t a => ⟨(advT S t.2.1), _, a.nx, if_pos (Or.inr ((kdN hS a).mp h)), (if_pos ((kdN hS a).mp h)).trans (by rw [a.1, a.2.2.2.1])⟩)
theorem x1p (hS : SB S) (h : ckd (tkS S j) = 40) : GR S [1] j e b u [2, 141] (j + 1) e b u 0 [] := fun N pm rp => by
  rw [Int.add_zero]; exact GCS.st (by decide) (fun t a => ⟨(advT S t.2.1), _, a.nx, ((if_neg (fun q => q.elim (fun q => absurd ((kd3 hS a).mpr q) (by rw [h]; decide)) (fun q => absurd ((kdN hS a).mpr q) (by rw [h]; decide))))).trans (if_pos ((kdS hS a (c := 40) (by decide)).mp h)), if_neg (fun q => absurd ((kdN hS a).mpr q) (by rw [h]; decide))⟩)
theorem x1f (hS : SB S) (h1 : ckd (tkS S j) ≠ 40) (h2 : ckd (tkS S j) ≠ 257) (h3 : ckd (tkS S j) ≠ 256) : GRF S [1] j e b u (tkS S j).1 := fun N pm rp => GCF.st (by decide) (fun t a => ((if_neg (fun q => q.elim (fun q => absurd ((kd3 hS a).mpr q) h2) (fun q => absurd ((kdN hS a).mpr q) h3)))).trans (if_neg (fun q => absurd ((kdS hS a (c := 40) (by decide)).mpr q) h1)))
theorem x2 (hS : SB S) (h : e ≠ 8) : GR S [2] j e b u [3, 6] j (e + 1) b u 0 [] := fun N pm rp => by
  rw [Int.add_zero]; exact GCS.st (by decide) (fun t a => ⟨t, _, a, if_neg h, rfl⟩)
theorem x2f (hS : SB S) (h : e = 8) : GRF S [2] j e b u (tkS S j).1 := fun N pm rp => GCF.st (by decide) (fun t a => if_pos h)
theorem x3 (hS : SB S)  : GR S [3] j e b u [4, 8] j e b u 0 [] := fun N pm rp => by
  rw [Int.add_zero]; exact GCS.st (by decide) (fun t a => ⟨t, _, a, rfl, rfl⟩)
theorem x4 (hS : SB S)  : GR S [4] j e b u [0, 9] j e b u 0 [] := fun N pm rp => by
  rw [Int.add_zero]; exact GCS.st (by decide) (fun t a => ⟨t, _, a, rfl, rfl⟩)
theorem x6e (hS : SB S) (h : ckd (tkS S j) = 61) : GR S [6] j e b u [3, 51, 7] (j + 1) e b u 0 [] := fun N pm rp => by
  rw [Int.add_zero]; exact GCS.st (by decide) (fun t a => ⟨(advT S t.2.1), _, a.nx, if_pos (Or.inl ((kdS hS a (c := 61) (by decide)).mp h)), rfl⟩)
theorem x6l (hS : SB S) (h : ckd (tkS S j) = 60) : GR S [6] j e b u [3, 51, 7] (j + 1) e b u 0 [] := fun N pm rp => by
  rw [Int.add_zero]; exact GCS.st (by decide) (fun t a => ⟨(advT S t.2.1), _, a.nx, if_pos (Or.inr ((kdS hS a (c := 60) (by decide)).mp h)), rfl⟩)
theorem x6n (hS : SB S) (h1 : ckd (tkS S j) ≠ 61) (h2 : ckd (tkS S j) ≠ 60) : GR S [6] j e b u [7] j e b u 0 [] := fun N pm rp => by
  rw [Int.add_zero]; exact GCS.st (by decide) (fun t a => ⟨t, _, a, if_neg (fun q => q.elim (fun q => absurd ((kdS hS a (c := 61) (by decide)).mpr q) h1) (fun q => absurd ((kdS hS a (c := 60) (by decide)).mpr q) h2)), rfl⟩)
theorem x7 (hS : SB S)  : GR S [7] j e b u [] j (e - 1) b u 0 [] := fun N pm rp => by
  rw [Int.add_zero]; exact GCS.st (by decide) (fun t a => ⟨t, _, a, rfl, rfl⟩)
theorem x8p (hS : SB S) (h : ckd (tkS S j) = 43) : GR S [8] j e b u [4, 51, 8] (j + 1) e b u 0 [] := fun N pm rp => by
  rw [Int.add_zero]; exact GCS.st (by decide) (fun t a => ⟨(advT S t.2.1), _, a.nx, if_pos (Or.inl ((kdS hS a (c := 43) (by decide)).mp h)), rfl⟩)
theorem x8m (hS : SB S) (h : ckd (tkS S j) = 45) : GR S [8] j e b u [4, 51, 8] (j + 1) e b u 0 [] := fun N pm rp => by
  rw [Int.add_zero]; exact GCS.st (by decide) (fun t a => ⟨(advT S t.2.1), _, a.nx, if_pos (Or.inr ((kdS hS a (c := 45) (by decide)).mp h)), rfl⟩)
theorem x8n (hS : SB S) (h1 : ckd (tkS S j) ≠ 43) (h2 : ckd (tkS S j) ≠ 45) : GR S [8] j e b u [] j e b u 0 [] := fun N pm rp => by
  rw [Int.add_zero]; exact GCS.st (by decide) (fun t a => ⟨t, _, a, if_neg (fun q => q.elim (fun q => absurd ((kdS hS a (c := 43) (by decide)).mpr q) h1) (fun q => absurd ((kdS hS a (c := 45) (by decide)).mpr q) h2)), rfl⟩)
theorem x9y (hS : SB S) (h : ckd (tkS S j) = 42) : GR S [9] j e b u [0, 51, 9] (j + 1) e b u 0 [] := fun N pm rp => by
  rw [Int.add_zero]; exact GCS.st (by decide) (fun t a => ⟨(advT S t.2.1), _, a.nx, if_pos ((kdS hS a (c := 42) (by decide)).mp h), rfl⟩)
theorem x9n (hS : SB S) (h : ckd (tkS S j) ≠ 42) : GR S [9] j e b u [] j e b u 0 [] := fun N pm rp => by
  rw [Int.add_zero]; exact GCS.st (by decide) (fun t a => ⟨t, _, a, if_neg (fun q => absurd ((kdS hS a (c := 42) (by decide)).mpr q) h), rfl⟩)
theorem x51 (hS : SB S)  : GR S [51] j e b u [] j e b u 1 [] := fun N pm rp => by
  exact GCS.st (by decide) (fun t a => ⟨t, _, a, rfl, rfl⟩)
theorem x52 (hS : SB S)  : GR S [52] j e b u [] j e b u 2 [] := fun N pm rp => by
  exact GCS.st (by decide) (fun t a => ⟨t, _, a, rfl, rfl⟩)
theorem x20w (hS : SB S) (h : ckd (tkS S j) = 262) : GR S [20] j e b u [22] j e b u 0 [(5, (tkS S j).1, 0, 0)] := fun N pm rp => by
  rw [Int.add_zero]; exact GCS.st (by decide) (fun t a => ⟨t, _, a, if_pos ((kdW hS a).mp h), by show [(5, t.1, 0, 0)] = _; rw [a.1]⟩)
theorem x20i (hS : SB S) (h : ckd (tkS S j) = 260) : GR S [20] j e b u [51, 21] j e b u 0 [(5, (tkS S j).1, 0, 0)] := fun N pm rp => by
  rw [Int.add_zero]; exact GCS.st (by decide) (fun t a => ⟨t, _, a, (if_neg (fun q => absurd ((kdW hS a).mpr q) (by rw [h]; decide))).trans (if_pos ((kdI hS a).mp h)), by show [(5, t.1, 0, 0)] = _; rw [a.1]⟩)
theorem x20o (hS : SB S) (h : ckd (tkS S j) = 258) : GR S [20] j e b u [51, 39] j e b u 0 [(5, (tkS S j).1, 0, 0)] := fun N pm rp => by
  rw [Int.add_zero]; exact GCS.st (by decide) (fun t a => ⟨t, _, a, (if_neg (fun q => absurd ((kdW hS a).mpr q) (by rw [h]; decide))).trans ((if_neg (fun q => absurd ((kdI hS a).mpr q) (by rw [h]; decide))).trans (if_pos (Or.inl ((kdO hS a).mp h)))), by show [(5, t.1, 0, 0)] = _; rw [a.1]⟩)
theorem x20r (hS : SB S) (h : ckd (tkS S j) = 259) : GR S [20] j e b u [51, 39] j e b u 0 [(5, (tkS S j).1, 0, 0)] := fun N pm rp => by
  rw [Int.add_zero]; exact GCS.st (by decide) (fun t a => ⟨t, _, a, (if_neg (fun q => absurd ((kdW hS a).mpr q) (by rw [h]; decide))).trans ((if_neg (fun q => absurd ((kdI hS a).mpr q) (by rw [h]; decide))).trans (if_pos (Or.inr ((kdR hS a).mp h)))), by show [(5, t.1, 0, 0)] = _; rw [a.1]⟩)
theorem x20n (hS : SB S) (h : ckd (tkS S j) = 256) : GR S [20] j e b u [51, 23] j e b u 0 [(5, (tkS S j).1, 0, 0)] := fun N pm rp => by
  rw [Int.add_zero]; exact GCS.st (by decide) (fun t a => ⟨t, _, a, (if_neg (fun q => absurd ((kdW hS a).mpr q) (by rw [h]; decide))).trans ((if_neg (fun q => absurd ((kdI hS a).mpr q) (by rw [h]; decide))).trans ((if_neg (fun q => q.elim (fun q => absurd ((kdO hS a).mpr q) (by rw [h]; decide)) (fun q => absurd ((kdR hS a).mpr q) (by rw [h]; decide)))).trans (if_pos ((kdN hS a).mp h)))), by show [(5, t.1, 0, 0)] = _; rw [a.1]⟩)
theorem x20f (hS : SB S) (h : ckd (tkS S j) < 256 ∨ 262 < ckd (tkS S j) ∨ ckd (tkS S j) = 257 ∨ ckd (tkS S j) = 261) : GRF S [20] j e b u (tkS S j).1 := fun N pm rp => GCF.st (by decide) (fun t a => (if_neg (fun q => absurd ((kdW hS a).mpr q) (by omega))).trans ((if_neg (fun q => absurd ((kdI hS a).mpr q) (by omega))).trans ((if_neg (fun q => q.elim (fun q => absurd ((kdO hS a).mpr q) (by omega)) (fun q => absurd ((kdR hS a).mpr q) (by omega)))).trans (if_neg (fun q => absurd ((kdN hS a).mpr q) (by omega))))))
theorem x21 (hS : SB S)  : GR S [21] j e b u [2, 51, 28, 24] (j + 1) e b u 0 [] := fun N pm rp => by
  rw [Int.add_zero]; exact GCS.st (by decide) (fun t a => ⟨(advT S t.2.1), _, a.nx, rfl, rfl⟩)
theorem x22 (hS : SB S)  : GR S [22] j e b u [52, 2, 51, 28, 52] (j + 1) e b u 0 [] := fun N pm rp => by
  rw [Int.add_zero]; exact GCS.st (by decide) (fun t a => ⟨(advT S t.2.1), _, a.nx, rfl, rfl⟩)
theorem x23 (hS : SB S)  : GR S [23] j e b u [161, 25] (j + 1) e b u 0 [(4, (tkS S j).1, 0, (tkS S j).2.2.2.2)] := fun N pm rp => by
  rw [Int.add_zero]; exact GCS.st (by decide) (fun t a => ⟨(advT S t.2.1), _, a.nx, rfl, by show [(4, t.1, 0, t.2.2.2.2)] = _; rw [a.1, a.2.2.2.1]⟩)
theorem x39 (hS : SB S)  : GR S [39] j e b u [2, 51, 159] (j + 1) e b u 0 [] := fun N pm rp => by
  rw [Int.add_zero]; exact GCS.st (by decide) (fun t a => ⟨(advT S t.2.1), _, a.nx, rfl, rfl⟩)
theorem x24y (hS : SB S) (h : ckd (tkS S j) = 261) : GR S [24] j e b u [52, 28, 51] (j + 1) e b u 0 [] := fun N pm rp => by
  rw [Int.add_zero]; exact GCS.st (by decide) (fun t a => ⟨(advT S t.2.1), _, a.nx, if_pos ((kdL hS a).mp h), rfl⟩)
theorem x24n (hS : SB S) (h : ckd (tkS S j) ≠ 261) : GR S [24] j e b u [51] j e b u 0 [] := fun N pm rp => by
  rw [Int.add_zero]; exact GCS.st (by decide) (fun t a => ⟨t, _, a, if_neg (fun q => absurd ((kdL hS a).mpr q) h), rfl⟩)
theorem x25c (hS : SB S) (h : ckd (tkS S j) = 256) (h2 : ckd (tkS S (j + 1)) = 40) : GR S [25] j e b u [26, 159] (j + 1) e b ((tkS S j).2.2.2.2, 0, (tkS S j).1) 0 [] := fun N pm rp => by
  rw [Int.add_zero]; exact GCS.st (by decide) (fun t a => ⟨(advT S t.2.1), _, a.nx, (if_pos ((kdN hS a).mp h)).trans ((if_pos ((kdS hS a.nx (c := 40) (by decide)).mp h2)).trans (by rw [a.1, a.2.2.2.1])), rfl⟩)
theorem x25b (hS : SB S) (h : ckd (tkS S j) = 256) (h2 : ckd (tkS S (j + 1)) ≠ 40) : GR S [25] j e b u [2, 52, 159] j e b u 0 [] := fun N pm rp => by
  rw [Int.add_zero]; exact GCS.st (by decide) (fun t a => ⟨(t.1, t.2.1, 2, (advT S t.2.1).2.2.2.1, t.2.2.2.2), _, ⟨a.1, a.2.1, by rw [← a.2.2.1]; exact ((((kdN hS a).mp h)).1).symm, a.2.2.2.1, fun q => absurd (a.2.2.1.symm.trans (((kdN hS a).mp h)).1) q⟩, (if_pos ((kdN hS a).mp h)).trans (if_neg (fun q => h2 ((kdS hS a.nx (c := 40) (by decide)).mpr q))), rfl⟩)
theorem x25n (hS : SB S) (h : ckd (tkS S j) ≠ 256) : GR S [25] j e b u [2, 52, 159] j e b u 0 [] := fun N pm rp => by
  rw [Int.add_zero]; exact GCS.st (by decide) (fun t a => ⟨t, _, a, if_neg (fun q => absurd ((kdN hS a).mpr q) h), rfl⟩)
theorem x26y (hS : SB S) (h2 : ckd (tkS S (j + 1)) = 41) : GR S [26] j e b u [38, 141] (j + 1) e b u 0 [] := fun N pm rp => by
  rw [Int.add_zero]; exact GCS.st (by decide) (fun t a => ⟨(advT S t.2.1), _, a.nx, if_pos ((kdS hS a.nx (c := 41) (by decide)).mp h2), rfl⟩)
theorem x26n (hS : SB S) (h2 : ckd (tkS S (j + 1)) ≠ 41) : GR S [26] j e b u [2, 27] (j + 1) e b u 0 [] := fun N pm rp => by
  rw [Int.add_zero]; exact GCS.st (by decide) (fun t a => ⟨(advT S t.2.1), _, a.nx, if_neg (fun q => h2 ((kdS hS a.nx (c := 41) (by decide)).mpr q)), rfl⟩)
theorem x27y (hS : SB S) (h : ckd (tkS S j) = 44) : GR S [27] j e b u [2, 27] (j + 1) e b (u.1, u.2.1 + 1, u.2.2) 0 [] := fun N pm rp => by
  rw [Int.add_zero]; exact GCS.st (by decide) (fun t a => ⟨(advT S t.2.1), _, a.nx, if_pos ((kdS hS a (c := 44) (by decide)).mp h), rfl⟩)
theorem x27n (hS : SB S) (h : ckd (tkS S j) ≠ 44) : GR S [27] j e b u [38, 141] j e b (u.1, u.2.1 + 1, u.2.2) 0 [] := fun N pm rp => by
  rw [Int.add_zero]; exact GCS.st (by decide) (fun t a => ⟨t, _, a, if_neg (fun q => absurd ((kdS hS a (c := 44) (by decide)).mpr q) h), rfl⟩)
theorem x38 (hS : SB S)  : GR S [38] j e b u [] j e b u0 2 [(1, u.2.2, u.2.1, u.1)] := fun N pm rp => by
  exact GCS.st (by decide) (fun t a => ⟨t, _, a, rfl, rfl⟩)
theorem x28 (hS : SB S) (h : b ≠ 6) : GR S [28] j e b u [223, 29] j e (b + 1) u 0 [] := fun N pm rp => by
  rw [Int.add_zero]; exact GCS.st (by decide) (fun t a => ⟨t, _, a, if_neg h, rfl⟩)
theorem x28f (hS : SB S) (h : b = 6) : GRF S [28] j e b u (tkS S j).1 := fun N pm rp => GCF.st (by decide) (fun t a => if_pos h)
theorem x29y (hS : SB S) (h : ckd (tkS S j) = 125) : GR S [29] j e b u [40] (j + 1) e b u 0 [] := fun N pm rp => by
  rw [Int.add_zero]; exact GCS.st (by decide) (fun t a => ⟨(advT S t.2.1), _, a.nx, if_pos ((kdS hS a (c := 125) (by decide)).mp h), rfl⟩)
theorem x29n (hS : SB S) (h : ckd (tkS S j) ≠ 125) : GR S [29] j e b u [20, 29] j e b u 0 [] := fun N pm rp => by
  rw [Int.add_zero]; exact GCS.st (by decide) (fun t a => ⟨t, _, a, if_neg (fun q => absurd ((kdS hS a (c := 125) (by decide)).mpr q) h), rfl⟩)
theorem x40 (hS : SB S)  : GR S [40] j e b u [] j e (b - 1) u 0 [] := fun N pm rp => by
  rw [Int.add_zero]; exact GCS.st (by decide) (fun t a => ⟨t, _, a, rfl, rfl⟩)
theorem y40 (hS : SB S) (h : ckd (tkS S j) = 40) : GR S [140] j e b u [] (j + 1) e b u 0 [] := fun N pm rp => by
  rw [Int.add_zero]; exact GCS.st (by decide) (fun t a => ⟨(advT S t.2.1), _, a.nx, if_pos ((kdS hS a (c := 40) (by decide)).mp h), rfl⟩)
theorem z40 (hS : SB S) (h : ckd (tkS S j) ≠ 40) : GRF S [140] j e b u (tkS S j).1 := fun N pm rp => GCF.st (by decide) (fun t a => if_neg (fun q => absurd ((kdS hS a (c := 40) (by decide)).mpr q) h))
theorem y41 (hS : SB S) (h : ckd (tkS S j) = 41) : GR S [141] j e b u [] (j + 1) e b u 0 [] := fun N pm rp => by
  rw [Int.add_zero]; exact GCS.st (by decide) (fun t a => ⟨(advT S t.2.1), _, a.nx, if_pos ((kdS hS a (c := 41) (by decide)).mp h), rfl⟩)
theorem z41 (hS : SB S) (h : ckd (tkS S j) ≠ 41) : GRF S [141] j e b u (tkS S j).1 := fun N pm rp => GCF.st (by decide) (fun t a => if_neg (fun q => absurd ((kdS hS a (c := 41) (by decide)).mpr q) h))
theorem y59 (hS : SB S) (h : ckd (tkS S j) = 59) : GR S [159] j e b u [] (j + 1) e b u 0 [] := fun N pm rp => by
  rw [Int.add_zero]; exact GCS.st (by decide) (fun t a => ⟨(advT S t.2.1), _, a.nx, if_pos ((kdS hS a (c := 59) (by decide)).mp h), rfl⟩)
theorem z59 (hS : SB S) (h : ckd (tkS S j) ≠ 59) : GRF S [159] j e b u (tkS S j).1 := fun N pm rp => GCF.st (by decide) (fun t a => if_neg (fun q => absurd ((kdS hS a (c := 59) (by decide)).mpr q) h))
theorem y61 (hS : SB S) (h : ckd (tkS S j) = 61) : GR S [161] j e b u [] (j + 1) e b u 0 [] := fun N pm rp => by
  rw [Int.add_zero]; exact GCS.st (by decide) (fun t a => ⟨(advT S t.2.1), _, a.nx, if_pos ((kdS hS a (c := 61) (by decide)).mp h), rfl⟩)
theorem z61 (hS : SB S) (h : ckd (tkS S j) ≠ 61) : GRF S [161] j e b u (tkS S j).1 := fun N pm rp => GCF.st (by decide) (fun t a => if_neg (fun q => absurd ((kdS hS a (c := 61) (by decide)).mpr q) h))
theorem y123 (hS : SB S) (h : ckd (tkS S j) = 123) : GR S [223] j e b u [] (j + 1) e b u 0 [] := fun N pm rp => by
  rw [Int.add_zero]; exact GCS.st (by decide) (fun t a => ⟨(advT S t.2.1), _, a.nx, if_pos ((kdS hS a (c := 123) (by decide)).mp h), rfl⟩)
theorem z123 (hS : SB S) (h : ckd (tkS S j) ≠ 123) : GRF S [223] j e b u (tkS S j).1 := fun N pm rp => GCF.st (by decide) (fun t a => if_neg (fun q => absurd ((kdS hS a (c := 123) (by decide)).mpr q) h))
end STEPS
section STEPR
variable {S : Int → Int} {j : Nat} {x : Int × Int × Int} {q : QR}
theorem r30 (hS : SB S) (h : ckd (tkS S j) = 256) : GCS S [30] j x q [140, 31] (j + 1) x (q.1, q.2.1, q.2.2.1, 0, (tkS S j).1) [(2, (tkS S j).1, 0, (tkS S j).2.2.2.2)] := GCS.st (by decide) (fun t a => ⟨(advT S t.2.1), _, a.nx, (if_pos ((kdN hS a).mp h)).trans (by rw [a.1]), by show [(2, t.1, 0, t.2.2.2.2)] = _; rw [a.1, a.2.2.2.1]⟩)
theorem r30f (hS : SB S) (h : ckd (tkS S j) ≠ 256) : GCF S [30] j x q (tkS S j).1 := GCF.st (by decide) (fun t a => if_neg (fun z => absurd ((kdN hS a).mpr z) h))
theorem r31y (hS : SB S) (h : ckd (tkS S j) = 41) : GCS S [31] j x q [141, 35] j x q [(7, 0, q.2.2.2.1, 0)] := GCS.st (by decide) (fun t a => ⟨t, _, a, if_pos ((kdS hS a (c := 41) (by decide)).mp h), if_pos ((kdS hS a (c := 41) (by decide)).mp h)⟩)
theorem r31n (hS : SB S) (h : ckd (tkS S j) ≠ 41) : GCS S [31] j x q [32] j x q [] := GCS.st (by decide) (fun t a => ⟨t, _, a, if_neg (fun z => absurd ((kdS hS a (c := 41) (by decide)).mpr z) h), if_neg (fun z => absurd ((kdS hS a (c := 41) (by decide)).mpr z) h)⟩)
theorem r32 (hS : SB S) (h : ckd (tkS S j) = 256) : GCS S [32] j x q [33] (j + 1) x (q.1, q.2.1, q.2.2.1, q.2.2.2.1 + 1, q.2.2.2.2) [(3, (tkS S j).1, q.2.2.2.1, (tkS S j).2.2.2.2)] := GCS.st (by decide) (fun t a => ⟨(advT S t.2.1), _, a.nx, if_pos ((kdN hS a).mp h), by show [(3, t.1, q.2.2.2.1, t.2.2.2.2)] = _; rw [a.1, a.2.2.2.1]⟩)
theorem r32f (hS : SB S) (h : ckd (tkS S j) ≠ 256) : GCF S [32] j x q (tkS S j).1 := GCF.st (by decide) (fun t a => if_neg (fun z => absurd ((kdN hS a).mpr z) h))
theorem r33y (hS : SB S) (h : ckd (tkS S j) = 44) : GCS S [33] j x q [32] (j + 1) x q [] := GCS.st (by decide) (fun t a => ⟨(advT S t.2.1), _, a.nx, if_pos ((kdS hS a (c := 44) (by decide)).mp h), if_pos ((kdS hS a (c := 44) (by decide)).mp h)⟩)
theorem r33n (hS : SB S) (h : ckd (tkS S j) ≠ 44) : GCS S [33] j x q [141, 35] j x q [(7, 0, q.2.2.2.1, 0)] := GCS.st (by decide) (fun t a => ⟨t, _, a, if_neg (fun z => absurd ((kdS hS a (c := 44) (by decide)).mpr z) h), if_neg (fun z => absurd ((kdS hS a (c := 44) (by decide)).mpr z) h)⟩)
theorem r34 (hS : SB S)  : GCS S [34] j x q [] j x (q.1, q.2.1, q.2.2.1, q.2.2.2.1, 0) [(0, q.2.2.2.2, x.2.2, 0)] := GCS.st (by decide) (fun t a => ⟨t, _, a, rfl, rfl⟩)
theorem r35 (hS : SB S)  : GCS S [35] j x q [28, 51, 34] j (x.1, x.2.1, 0) (q.1, q.2.1, q.2.2.1, 0, q.2.2.2.2) [] := GCS.st (by decide) (fun t a => ⟨t, _, a, rfl, rfl⟩)
theorem r36y (hS : SB S) (h : ckd (tkS S j) = 264) : GCS S [36] j x q [] j x q [] := GCS.st (by decide) (fun t a => ⟨t, _, a, if_pos ((kdE hS a).mp h), rfl⟩)
theorem r36n (hS : SB S) (h : ckd (tkS S j) ≠ 264) : GCS S [36] j x q [30, 36] j x q [] := GCS.st (by decide) (fun t a => ⟨t, _, a, if_neg (fun z => absurd ((kdE hS a).mpr z) h), rfl⟩)
theorem r140 (hS : SB S) (h : ckd (tkS S j) = 40) : GCS S [140] j x q [] (j + 1) x q [] := GCS.st (by decide) (fun t a => ⟨(advT S t.2.1), _, a.nx, if_pos ((kdS hS a (c := 40) (by decide)).mp h), rfl⟩)
theorem f140 (hS : SB S) (h : ckd (tkS S j) ≠ 40) : GCF S [140] j x q (tkS S j).1 := GCF.st (by decide) (fun t a => if_neg (fun z => absurd ((kdS hS a (c := 40) (by decide)).mpr z) h))
theorem r141 (hS : SB S) (h : ckd (tkS S j) = 41) : GCS S [141] j x q [] (j + 1) x q [] := GCS.st (by decide) (fun t a => ⟨(advT S t.2.1), _, a.nx, if_pos ((kdS hS a (c := 41) (by decide)).mp h), rfl⟩)
theorem f141 (hS : SB S) (h : ckd (tkS S j) ≠ 41) : GCF S [141] j x q (tkS S j).1 := GCF.st (by decide) (fun t a => if_neg (fun z => absurd ((kdS hS a (c := 41) (by decide)).mpr z) h))
end STEPR

