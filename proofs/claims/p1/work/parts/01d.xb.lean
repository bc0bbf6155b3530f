def jw_strs : List (String × Nat × String) := [("Branchwork", 235, "what is not 0 to 5"), ("Branchwork", 237, "what is not 0 to 2"), ("Branchwork", 360, "no such branch"), ("Branchwork", 353, "no such path"), ("Branchwork", 358, "no such commit"), ("Branchwork", 87, "no such place"), ("Branchwork", 94, "no such line"), ("Branchwork", 103, "the file is full"), ("Branchwork", 355, "no such file"), ("Branchwork", 125, "there is a file already"), ("Branchwork", 148, "no such note"), ("Branchwork", 151, "there were 30 commits"), ("Branchwork", 156, "conflicts are not settled"), ("Branchwork", 161, "there is nothing to commit"), ("Branchwork", 167, "there is no commit"), ("Branchwork", 169, "there are 5 branches"), ("Branchwork", 365, "the working tree is not clean"), ("Branchwork", 367, "something is being merged"), ("Branchwork", 363, "no such conflict"), ("Branchwork", 271, "what is neither 0 nor 1"), ("Branchwork", 280, "what is not 0 to 3")]
theorem js_Branchwork_235 : (("Branchwork", 235, "what is not 0 to 5") : String × Nat × String) ∈ jw_strs := List.mem_of_getElem? (i := 0) rfl
theorem js_Branchwork_237 : (("Branchwork", 237, "what is not 0 to 2") : String × Nat × String) ∈ jw_strs := List.mem_of_getElem? (i := 1) rfl
theorem js_Branchwork_360 : (("Branchwork", 360, "no such branch") : String × Nat × String) ∈ jw_strs := List.mem_of_getElem? (i := 2) rfl
theorem js_Branchwork_353 : (("Branchwork", 353, "no such path") : String × Nat × String) ∈ jw_strs := List.mem_of_getElem? (i := 3) rfl
theorem js_Branchwork_358 : (("Branchwork", 358, "no such commit") : String × Nat × String) ∈ jw_strs := List.mem_of_getElem? (i := 4) rfl
theorem js_Branchwork_87 : (("Branchwork", 87, "no such place") : String × Nat × String) ∈ jw_strs := List.mem_of_getElem? (i := 5) rfl
theorem js_Branchwork_94 : (("Branchwork", 94, "no such line") : String × Nat × String) ∈ jw_strs := List.mem_of_getElem? (i := 6) rfl
theorem js_Branchwork_103 : (("Branchwork", 103, "the file is full") : String × Nat × String) ∈ jw_strs := List.mem_of_getElem? (i := 7) rfl
theorem js_Branchwork_355 : (("Branchwork", 355, "no such file") : String × Nat × String) ∈ jw_strs := List.mem_of_getElem? (i := 8) rfl
theorem js_Branchwork_125 : (("Branchwork", 125, "there is a file already") : String × Nat × String) ∈ jw_strs := List.mem_of_getElem? (i := 9) rfl
theorem js_Branchwork_148 : (("Branchwork", 148, "no such note") : String × Nat × String) ∈ jw_strs := List.mem_of_getElem? (i := 10) rfl
theorem js_Branchwork_151 : (("Branchwork", 151, "there were 30 commits") : String × Nat × String) ∈ jw_strs := List.mem_of_getElem? (i := 11) rfl
theorem js_Branchwork_156 : (("Branchwork", 156, "conflicts are not settled") : String × Nat × String) ∈ jw_strs := List.mem_of_getElem? (i := 12) rfl
theorem js_Branchwork_161 : (("Branchwork", 161, "there is nothing to commit") : String × Nat × String) ∈ jw_strs := List.mem_of_getElem? (i := 13) rfl
theorem js_Branchwork_167 : (("Branchwork", 167, "there is no commit") : String × Nat × String) ∈ jw_strs := List.mem_of_getElem? (i := 14) rfl
theorem js_Branchwork_169 : (("Branchwork", 169, "there are 5 branches") : String × Nat × String) ∈ jw_strs := List.mem_of_getElem? (i := 15) rfl
theorem js_Branchwork_365 : (("Branchwork", 365, "the working tree is not clean") : String × Nat × String) ∈ jw_strs := List.mem_of_getElem? (i := 16) rfl
theorem js_Branchwork_367 : (("Branchwork", 367, "something is being merged") : String × Nat × String) ∈ jw_strs := List.mem_of_getElem? (i := 17) rfl
theorem js_Branchwork_363 : (("Branchwork", 363, "no such conflict") : String × Nat × String) ∈ jw_strs := List.mem_of_getElem? (i := 18) rfl
theorem js_Branchwork_271 : (("Branchwork", 271, "what is neither 0 nor 1") : String × Nat × String) ∈ jw_strs := List.mem_of_getElem? (i := 19) rfl
theorem js_Branchwork_280 : (("Branchwork", 280, "what is not 0 to 3") : String × Nat × String) ∈ jw_strs := List.mem_of_getElem? (i := 20) rfl
def jw_cast : List (String × String) := [("java/lang/IllegalArgumentException", "java/lang/IllegalArgumentException"), ("java/lang/IndexOutOfBoundsException", "java/lang/IndexOutOfBoundsException"), ("java/lang/IllegalStateException", "java/lang/IllegalStateException"), ("java/util/ArrayList", "java/util/Collection"), ("Branchwork$Content", "java/lang/Object"), ("Branchwork$Tree", "java/lang/Object"), ("BranchworkModel$Commit", "java/lang/Object"), ("Branchwork", "java/lang/Object"), ("Branchwork$History", "java/lang/Object"), ("Branchwork$Merger", "java/lang/Object"), ("Branchwork$Conflicts", "java/lang/Object"), ("Branchwork$Renames", "java/lang/Object"), ("Branchwork$Match", "java/lang/Object"), ("Branchwork$Blender", "java/lang/Object"), ("BranchworkModel", "java/lang/Object"), ("java/util/ArrayList", "java/lang/Object"), ("BranchworkModel$Tree", "java/lang/Object"), ("java/lang/IndexOutOfBoundsException", "java/lang/Object"), ("java/lang/IllegalArgumentException", "java/lang/Object"), ("java/lang/IllegalStateException", "java/lang/Object"), ("BranchworkModel$Merge", "java/lang/Object"), ("BranchworkModel$Blend", "java/lang/Object"), ("java/lang/Throwable", "java/lang/Object"), ("java/lang/String", "java/lang/Object"), ("[LBranchwork$Content;", "java/lang/Object"), ("[I", "java/lang/Object"), ("[LBranchwork$Tree;", "java/lang/Object"), ("[Z", "java/lang/Object"), ("[B", "java/lang/Object"), ("[[I", "java/lang/Object"), ("[Ljava/lang/Object;", "java/lang/Object"), ("[LBranchworkModel$Commit;", "java/lang/Object"), ("[J", "java/lang/Object")]
def jw_ncast : List (String × String) := [("java/lang/IndexOutOfBoundsException", "java/lang/IllegalArgumentException"), ("java/lang/IndexOutOfBoundsException", "java/lang/IllegalStateException"), ("java/lang/IllegalArgumentException", "java/lang/IndexOutOfBoundsException"), ("java/lang/IllegalArgumentException", "java/lang/IllegalStateException"), ("java/lang/IllegalStateException", "java/lang/IndexOutOfBoundsException"), ("java/lang/IllegalStateException", "java/lang/IllegalArgumentException")]
/-- words that the tables alone decide and that are no good words: kept by themselves -/
def jw_sk : Cond → Bool
  | .castable _ _ => true
  | .declares _ => true
  | .native _ => true
  | .sameMethod r _ _ _ => decide (r ≠ "java/lang/invoke/MethodHandle") && decide (r ≠ "java/lang/invoke/VarHandle")
  | _ => false
def jw_soft : List Cond := lw_tbl.filter jw_sk
theorem jw_smem {w : Cond} (i : Nat) (h : lw_tbl[i]? = some w) (g : jw_sk w = true) : w ∈ jw_soft := List.mem_filter.mpr ⟨List.mem_of_getElem? h, g⟩
theorem jw_sk.tab {w : Cond} (h : jw_sk w = true) : w.onTables = true := by cases w <;> first | rfl | simp [jw_sk] at h
theorem jw_sk.warm {w : Cond} (h : jw_sk w = true) {s U : State} (hW : s.WarmedH U.vm) (hz : va_Nw w s) : va_Nw w U := by
  cases w <;> first
    | exact va_Nw.warmC hW hz
    | exact va_Nw.warmD hW hz
    | exact va_tabs rfl (rfl : (s.setVm U.vm).vm = U.vm) (by rw [Cond.native_setVm hW.alike]; exact hz)
    | exact va_tabs rfl (rfl : (s.setVm U.vm).vm = U.vm) (by rw [Cond.sameMethod_setVm hW.alike (by simpa [jw_sk] using h)]; exact hz)
    | (simp [jw_sk] at h; done)
theorem jw_castk : ∀ q ∈ jw_cast, Cond.castable q.1 q.2 ∈ jw_soft := by decide +kernel
/-- there is a class of arrays of int arrays -/
def jw_AA (U : State) : Prop := (Cond.arrayOver (.array .int)).before #[] U = true
theorem jw_AA.moved {u U : State} (hvm : u.vm.Alike U.vm) (h : jw_AA u) : jw_AA U := by
  obtain ⟨comp, c, k, h1, h2, h3, h4, h5⟩ := arrayOverA_spec h
  obtain ⟨k', hk', he⟩ := hvm.2.2 _ _ h3
  have hi : (U.vm.classes.findIdx? fun (x : Class) => match x.kind with | .array component _ => component == comp | _ => false) = some c := by
    have e1 := va_idx_bare U.vm comp
    have e2 := va_idx_bare u.vm comp
    have e3 : U.vm.bare = u.vm.bare := by first | exact hvm.bare_eq | exact hvm.bare_eq.symm
    rw [e3] at e1
    exact e1.symm.trans (e2.trans h2)
  have hkind : k'.kind = .array comp (.array .int) := by rw [he]; exact h4
  have f1 : U.vm.findClass (FieldType.array .int).toString = some comp := by rw [hvm.findClass]; exact h1
  have f2 : U.vm.findClass ("[" ++ (FieldType.array .int).toString) = some c := by rw [hvm.findClass]; exact h5
  unfold jw_AA Cond.before Cond.holds
  simp only [Cond.value]
  rw [f1, Option.bind_some]
  refine (congrArg (fun o : Option Nat => (o.bind (fun c => (U.vm.classes[c]?).map fun (k : Class) => match k.kind with | .array _ ty => decide (ty = FieldType.array .int) && decide (U.vm.findClass ("[" ++ (FieldType.array .int).toString) = some c) | _ => false) == some true)) hi).trans ?_
  simp [hk', hkind, f2]
/-- what a walk needs besides: no stack traces, Throwable's statics, the texts, who can be cast to whom, the lists' empty array -/
def jw_xB (o : jw_O) (U : State) (H : Heap) : Prop := o.1.stackTraces = false ∧ vx_Zq Bundle.tN "UNASSIGNED_STACK" Bundle.steD (fun q => o.2.2.2.1 ≤ q) U H ∧ vx_Zq Bundle.tN "SUPPRESSED_SENTINEL" Bundle.listD (fun q => o.2.2.2.1 ≤ q) U H ∧ (∀ q ∈ jw_strs, ∃ sa, vk_R q.1 q.2.1 q.2.2 sa U) ∧ (∀ w ∈ jw_soft, va_Nw w U) ∧ (∀ q ∈ jw_ncast, va_Nc q.1 q.2 U) ∧ va_Z "java/util/ArrayList" "DEFAULTCAPACITY_EMPTY_ELEMENTDATA" "[Ljava/lang/Object;" (.ref o.2.2.2.2) (fun q => o.2.2.2.1 ≤ q) U H ∧ o.2.2.2.2 < o.2.2.2.1 ∧ va_T (.object "java/lang/Object") o.2.2.2.2 0 (fun _ => .null) (fun q => o.2.2.2.1 ≤ q) U H ∧ jw_AA U
theorem jw_xB.same {o : jw_O} {u U : State} {H : Heap} (h : u.vm = U.vm) (x : jw_xB o u H) : jw_xB o U H := by
  obtain ⟨h1, h2, h3, h4, h5, h6, h7, h8, h9, h10⟩ := x
  have ha : u.vm.Alike U.vm := by rw [h]; exact Vm.Alike.refl _
  exact ⟨h1, vx_Zq.moved ha h2, vx_Zq.moved ha h3, fun q hq => (h4 q hq).imp fun sa z => vk_R.same h.symm z, fun w hw => va_tabs (jw_sk.tab (List.mem_filter.mp hw).2) h (h5 w hw), fun q hq => va_Nc.moved ha (h6 q hq), va_Z.moved ha h7, h8, va_T.moved ha h9, h10.moved ha⟩
theorem jw_xB.warm {o : jw_O} {s U : State} {H : Heap} (x : jw_xB o s H) (hW : s.WarmedH U.vm) : jw_xB o U H := by
  obtain ⟨h1, h2, h3, h4, h5, h6, h7, h8, h9, h10⟩ := x
  exact ⟨h1, vx_Zq.moved hW.alike h2, vx_Zq.moved hW.alike h3, fun q hq => (h4 q hq).imp fun sa z => vk_R.warm hW z, fun w hw => jw_sk.warm (List.mem_filter.mp hw).2 hW (h5 w hw), fun q hq => va_Nc.moved hW.alike (h6 q hq), va_Z.moved hW.alike h7, h8, va_T.moved hW.alike h9, h10.moved hW.alike⟩
theorem jw_xB.kept {o : jw_O} {U : State} {H H1 : Heap} (x : jw_xB o U H) (hq : ∀ q : Nat, q < H.size → ¬ o.2.2.2.1 ≤ q → H1[q]? = H[q]?) : jw_xB o U H1 := by
  obtain ⟨h1, h2, h3, h4, h5, h6, h7, h8, h9, h10⟩ := x
  exact ⟨h1, h2.kept hq, h3.kept hq, h4, h5, h6, h7.kept hq, h8, h9.kept hq, h10⟩
