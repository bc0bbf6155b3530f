/-- the script's row of ints, below all that the law makes -/
def jw_xB (o : jw_O) (U : State) (H : Heap) : Prop := ∃ (L : Nat) (xs : Nat → Int32), L ≤ 260 ∧ va_X o.2.2.2.2 L xs U H ∧ o.2.2.2.2 < H.size ∧ ¬ o.2.2.2.1 ≤ o.2.2.2.2
theorem jw_xB.same {o : jw_O} {u U : State} {H : Heap} (h : u.vm = U.vm) (x : jw_xB o u H) : jw_xB o U H := by
  obtain ⟨L, xs, h1, h2, h3⟩ := x
  exact ⟨L, xs, h1, h2.moved (by rw [h]; exact Vm.Alike.refl _), h3⟩
theorem jw_xB.kept {o : jw_O} {U : State} {H H1 : Heap} (x : jw_xB o U H) (q : ∀ q : Nat, q < H.size → ¬ o.2.2.2.1 ≤ q → H1[q]? = H[q]?) : jw_xB o U H1 := by
  obtain ⟨L, xs, h1, h2, h3, h4⟩ := x
  have e := q _ h3 h4
  refine ⟨L, xs, h1, h2.kept e, ?_, h4⟩
  obtain ⟨scr, h5, -⟩ := h2
  rw [h5] at e
  exact (Array.getElem?_eq_some_iff.mp e).1
theorem jw_xB.warm {o : jw_O} {s U : State} {H : Heap} (x : jw_xB o s H) (hW : s.WarmedH U.vm) : jw_xB o U H := by
  obtain ⟨L, xs, h1, h2, h3⟩ := x
  exact ⟨L, xs, h1, h2.moved hW.alike, h3⟩
