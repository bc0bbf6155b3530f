def jw_xB (_ : jw_O) (_ : State) (_ : Heap) : Prop := True
theorem jw_xB.same {o : jw_O} {u U : State} {H : Heap} (_ : u.vm = U.vm) (_ : jw_xB o u H) : jw_xB o U H := trivial
theorem jw_xB.kept {o : jw_O} {U : State} {H H1 : Heap} (_ : jw_xB o U H) (_ : ∀ q : Nat, q < H.size → ¬ o.2.2.2.1 ≤ q → H1[q]? = H[q]?) : jw_xB o U H1 := trivial
theorem jw_xB.warm {o : jw_O} {s U : State} {H : Heap} (_ : jw_xB o s H) (_ : s.WarmedH U.vm) : jw_xB o U H := trivial
