section
def nst_M : List (String × Nat × MethodName × String) := [(RX5, 11, yX9_init, "LineKeeper"), (RX5, 46, yX1_init, "LineKeeper"), (RX11, 31, yX3_init, "LineKeeper"), (RX11, 38, yX10_init, "LineKeeper"), (RX11, 49, yX6_init, "LineKeeper"), (RX11, 77, yX1_init, "LineKeeper"), (RX9, 51, yX11_put, "LineKeeper"), (RX5, 231, yX11_at, "LineKeeper"), (RX1, 49, yX11_put, "LineKeeper"), (RX5, 129, yX11_put, "LineKeeper"), (RX9, 73, yX11_at, "LineKeeper"), (RX1, 100, yX11_isPure, "LineKeeper"), (RX10, 26, yX11_put, "LineKeeper"), (RX1, 107, yX11_isAct, "LineKeeper"), (RX1, 53, yX11_at, "LineKeeper"), (RX10, 40, yX11_at, "LineKeeper"), (RX6, 63, yX11_at, "LineKeeper"), (RX6, 42, yX11_isAct, "LineKeeper"), (RX6, 74, yX11_isFive, "LineKeeper"), (RX6, 77, yX11_reckon, "LineKeeper"), (RX6, 88, yX11_put, "LineKeeper"), (RX3, 84, yX11_at, "LineKeeper"), (RX3, 103, yX11_put, "LineKeeper"), (RX2, 57, yX11_isAct, "LineKeeper"), (RX3, 35, yX11_clear, "LineKeeper"), (RX3, 56, yX11_bitsAt, "LineKeeper"), (RX3, 60, yX11_putBits, "LineKeeper"), (RX3, 67, yX11_exclude, "LineKeeper"), (RX3, 74, yX11_isAct, "LineKeeper"), (RX3, 81, yX11_include, "LineKeeper"), (RX2, 60, yX11_isPure, "LineKeeper"), (RX3, 25, yX11_has, "LineKeeper"), (RX6, 123, yX11_clear, "LineKeeper"), (RX6, 127, yX11_include, "LineKeeper"), (RX6, 111, yX11_isPure, "LineKeeper"), (RX6, 131, yX11_has, "LineKeeper"), (RX4, 118, yX11_has, "LineKeeper"), (RX4, 81, yX11_put, "LineKeeper"), (RX4, 128, yX11_at, "LineKeeper"), (RX4, 164, yX11_isPure, "LineKeeper"), (RX8, 104, yX11_include, "LineKeeper"), (RX8, 108, yX11_clear, "LineKeeper"), (RX8, 112, yX11_has, "LineKeeper"), (RX8, 132, yX11_bitsAt, "LineKeeper"), (RX8, 128, yX11_put, "LineKeeper"), (RX8, 74, yX11_at, "LineKeeper"), (RX8, 152, yX11_putBits, "LineKeeper"), (RX7, 61, yX11_put, "LineKeeper"), (RX7, 91, yX11_at, "LineKeeper"), (RX7, 132, yX11_isPure, "LineKeeper"), (RX7, 136, yX11_reckon, "LineKeeper")]
def nst_I (U : State) : Prop := (Cond.arrayOver (.array .int)).before #[] U = true
theorem nst_I.moved {u U : State} (hvm : u.vm.Alike U.vm) (h : nst_I u) : nst_I U := by
  obtain ⟨comp, c, k, h1, h2, h3, h4, h5⟩ := arrayOverA_spec h
  obtain ⟨k', hk', he⟩ := hvm.2.2 _ _ h3
  have hi : (U.vm.classes.findIdx? fun (x : Class) => match x.kind with | .array component _ => component == comp | _ => false) = some c := by
    rw [hvm.findIdx?_eq _ (fun _ => rfl)]
    exact h2
  have hkind : k'.kind = .array comp (.array .int) := by rw [he]; exact h4
  have f1 : U.vm.findClass (FieldType.array .int).toString = some comp := by rw [hvm.findClass]; exact h1
  have f2 : U.vm.findClass ("[" ++ (FieldType.array .int).toString) = some c := by rw [hvm.findClass]; exact h5
  unfold nst_I Cond.before Cond.holds
  simp only [Cond.value]
  rw [f1, Option.bind_some]
  refine (congrArg (fun o : Option Nat => (o.bind (fun c => (U.vm.classes[c]?).map fun (k : Class) => match k.kind with | .array _ ty => decide (ty = FieldType.array .int) && decide (U.vm.findClass ("[" ++ (FieldType.array .int).toString) = some c) | _ => false) == some true)) hi).trans ?_
  simp [hk', hkind, f2]
def nst (U : State) : Prop := (∀ q ∈ nst_M, va_Nw (.methodLinkNest q.1 q.2.1 q.2.2.1 q.2.2.2) U) ∧ va_AO "LineKeeper$Code" U ∧ nst_I U
theorem nst.same {u U : State} (h : u.vm = U.vm) (hn : nst u) : nst U := ⟨fun q hq => va_Nw.same rfl h (hn.1 q hq), va_AO.moved (by rw [h]; exact Vm.Alike.refl _) hn.2.1, nst_I.moved (by rw [h]; exact Vm.Alike.refl _) hn.2.2⟩
theorem nst.warm {s U : State} (hW : s.WarmedH U.vm) (hn : nst s) : nst U := ⟨fun q hq => va_Nw.warmM hW (hn.1 q hq), va_AO.moved hW.alike hn.2.1, nst_I.moved hW.alike hn.2.2⟩
end
