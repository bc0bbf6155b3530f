def F_Content : u_T := fun k => match k with
  | 0 => ("Branchwork$Content", "lines", "[I", true)
  | 1 => ("Branchwork$Content", "count", "I", false)
  | _ => ("Branchwork$Content", "present", "Z", false)
def F_Tree : u_T := fun k => match k with
  | 0 => ("Branchwork$Tree", "files", "[LBranchwork$Content;", true)
  | _ => ("Branchwork$Tree", "outside", "LBranchwork$Content;", true)
def F_Match : u_T := fun k => match k with
  | 0 => ("Branchwork$Match", "common", "[I", true)
  | 1 => ("Branchwork$Match", "partnersInB", "[I", true)
  | _ => ("Branchwork$Match", "partnersInA", "[I", true)
def F_Renames : u_T := fun k => match k with
  | 0 => ("Branchwork$Renames", "fates", "[I", true)
  | 1 => ("Branchwork$Renames", "sources", "[I", true)
  | 2 => ("Branchwork$Renames", "match", "LBranchwork$Match;", true)
  | _ => ("Branchwork$Renames", "count", "I", false)
def F_Blender : u_T := fun k => match k with
  | 0 => ("Branchwork$Blender", "withOurs", "LBranchwork$Match;", true)
  | 1 => ("Branchwork$Blender", "withTheirs", "LBranchwork$Match;", true)
  | 2 => ("Branchwork$Blender", "basePart", "LBranchwork$Content;", true)
  | 3 => ("Branchwork$Blender", "ourPart", "LBranchwork$Content;", true)
  | _ => ("Branchwork$Blender", "theirPart", "LBranchwork$Content;", true)
def F_Conflicts : u_T := fun k => match k with
  | 0 => ("Branchwork$Conflicts", "codes", "[I", true)
  | 1 => ("Branchwork$Conflicts", "paths", "[I", true)
  | _ => ("Branchwork$Conflicts", "count", "I", false)
def F_Merger : u_T := fun k => match k with
  | 0 => ("Branchwork$Merger", "result", "LBranchwork$Tree;", true)
  | 1 => ("Branchwork$Merger", "told", "LBranchwork$Conflicts;", true)
  | 2 => ("Branchwork$Merger", "toOurs", "LBranchwork$Renames;", true)
  | 3 => ("Branchwork$Merger", "toTheirs", "LBranchwork$Renames;", true)
  | 4 => ("Branchwork$Merger", "blender", "LBranchwork$Blender;", true)
  | 5 => ("Branchwork$Merger", "noLines", "LBranchwork$Content;", true)
  | _ => ("Branchwork$Merger", "newFromOurs", "[Z", true)
def F_History : u_T := fun k => match k with
  | 0 => ("Branchwork$History", "trees", "[LBranchwork$Tree;", true)
  | 1 => ("Branchwork$History", "nothing", "LBranchwork$Tree;", true)
  | 2 => ("Branchwork$History", "notes", "[I", true)
  | 3 => ("Branchwork$History", "firstParents", "[I", true)
  | 4 => ("Branchwork$History", "secondParents", "[I", true)
  | 5 => ("Branchwork$History", "treeNumbers", "[I", true)
  | 6 => ("Branchwork$History", "contentNumbers", "[I", true)
  | 7 => ("Branchwork$History", "metContents", "[I", true)
  | 8 => ("Branchwork$History", "count", "I", false)
  | _ => ("Branchwork$History", "kept", "I", false)
def F_Branchwork : u_T := fun k => match k with
  | 0 => ("Branchwork", "working", "LBranchwork$Tree;", true)
  | 1 => ("Branchwork", "history", "LBranchwork$History;", true)
  | 2 => ("Branchwork", "merger", "LBranchwork$Merger;", true)
  | 3 => ("Branchwork", "conflicts", "LBranchwork$Conflicts;", true)
  | 4 => ("Branchwork", "renames", "LBranchwork$Renames;", true)
  | 5 => ("Branchwork", "match", "LBranchwork$Match;", true)
  | 6 => ("Branchwork", "tips", "[I", true)
  | 7 => ("Branchwork", "branches", "I", false)
  | 8 => ("Branchwork", "current", "I", false)
  | _ => ("Branchwork", "merged", "I", false)
abbrev jw_cl : List vw_C := [("Branchwork$Content", F_Content, 3), ("Branchwork$Tree", F_Tree, 2), ("Branchwork$Match", F_Match, 3), ("Branchwork$Renames", F_Renames, 4), ("Branchwork$Blender", F_Blender, 5), ("Branchwork$Conflicts", F_Conflicts, 3), ("Branchwork$Merger", F_Merger, 7), ("Branchwork$History", F_History, 10), ("Branchwork", F_Branchwork, 10)]
theorem jc_Content : jw_cl[0]? = some ("Branchwork$Content", F_Content, 3) := rfl
theorem jc_Tree : jw_cl[1]? = some ("Branchwork$Tree", F_Tree, 2) := rfl
theorem jc_Match : jw_cl[2]? = some ("Branchwork$Match", F_Match, 3) := rfl
theorem jc_Renames : jw_cl[3]? = some ("Branchwork$Renames", F_Renames, 4) := rfl
theorem jc_Blender : jw_cl[4]? = some ("Branchwork$Blender", F_Blender, 5) := rfl
theorem jc_Conflicts : jw_cl[5]? = some ("Branchwork$Conflicts", F_Conflicts, 3) := rfl
theorem jc_Merger : jw_cl[6]? = some ("Branchwork$Merger", F_Merger, 7) := rfl
theorem jc_History : jw_cl[7]? = some ("Branchwork$History", F_History, 10) := rfl
theorem jc_Branchwork : jw_cl[8]? = some ("Branchwork", F_Branchwork, 10) := rfl
abbrev jw_tys (cA : Nat → ClassId) : List (ClassId × FieldType) := [(cA 0, .int), (cA 1, .boolean), (cA 2, .object "Branchwork$Content"), (cA 3, .object "Branchwork$Tree")]
def jw_ao : List String := ["Branchwork$Content", "Branchwork$Tree"]
def jw_nest : List (String × Nat × MethodName × String) := [("Branchwork$Tree", 17, ⟨"Branchwork$Content", "<init>", "()V"⟩, "Branchwork"), ("Branchwork", 25, ⟨"Branchwork$Merger", "<init>", "()V"⟩, "Branchwork"), ("Branchwork$Merger", 20, ⟨"Branchwork$Conflicts", "<init>", "()V"⟩, "Branchwork"), ("Branchwork$Merger", 27, ⟨"Branchwork$Renames", "<init>", "()V"⟩, "Branchwork"), ("Branchwork$Renames", 20, ⟨"Branchwork$Match", "<init>", "()V"⟩, "Branchwork"), ("Branchwork$Merger", 37, ⟨"Branchwork$Blender", "<init>", "()V"⟩, "Branchwork"), ("Branchwork$Blender", 11, ⟨"Branchwork$Match", "<init>", "()V"⟩, "Branchwork"), ("Branchwork$Blender", 23, ⟨"Branchwork$Content", "<init>", "()V"⟩, "Branchwork"), ("Branchwork$Merger", 44, ⟨"Branchwork$Content", "<init>", "()V"⟩, "Branchwork"), ("Branchwork", 32, ⟨"Branchwork$Conflicts", "<init>", "()V"⟩, "Branchwork"), ("Branchwork", 39, ⟨"Branchwork$Renames", "<init>", "()V"⟩, "Branchwork"), ("Branchwork", 46, ⟨"Branchwork$Match", "<init>", "()V"⟩, "Branchwork")]
theorem jn_Tree_17 : (("Branchwork$Tree", 17, ⟨"Branchwork$Content", "<init>", "()V"⟩, "Branchwork") : String × Nat × MethodName × String) ∈ jw_nest := List.mem_of_getElem? (i := 0) rfl
theorem jn_Branchwork_25 : (("Branchwork", 25, ⟨"Branchwork$Merger", "<init>", "()V"⟩, "Branchwork") : String × Nat × MethodName × String) ∈ jw_nest := List.mem_of_getElem? (i := 1) rfl
theorem jn_Merger_20 : (("Branchwork$Merger", 20, ⟨"Branchwork$Conflicts", "<init>", "()V"⟩, "Branchwork") : String × Nat × MethodName × String) ∈ jw_nest := List.mem_of_getElem? (i := 2) rfl
theorem jn_Merger_27 : (("Branchwork$Merger", 27, ⟨"Branchwork$Renames", "<init>", "()V"⟩, "Branchwork") : String × Nat × MethodName × String) ∈ jw_nest := List.mem_of_getElem? (i := 3) rfl
theorem jn_Renames_20 : (("Branchwork$Renames", 20, ⟨"Branchwork$Match", "<init>", "()V"⟩, "Branchwork") : String × Nat × MethodName × String) ∈ jw_nest := List.mem_of_getElem? (i := 4) rfl
theorem jn_Merger_37 : (("Branchwork$Merger", 37, ⟨"Branchwork$Blender", "<init>", "()V"⟩, "Branchwork") : String × Nat × MethodName × String) ∈ jw_nest := List.mem_of_getElem? (i := 5) rfl
theorem jn_Blender_11 : (("Branchwork$Blender", 11, ⟨"Branchwork$Match", "<init>", "()V"⟩, "Branchwork") : String × Nat × MethodName × String) ∈ jw_nest := List.mem_of_getElem? (i := 6) rfl
theorem jn_Blender_23 : (("Branchwork$Blender", 23, ⟨"Branchwork$Content", "<init>", "()V"⟩, "Branchwork") : String × Nat × MethodName × String) ∈ jw_nest := List.mem_of_getElem? (i := 7) rfl
theorem jn_Merger_44 : (("Branchwork$Merger", 44, ⟨"Branchwork$Content", "<init>", "()V"⟩, "Branchwork") : String × Nat × MethodName × String) ∈ jw_nest := List.mem_of_getElem? (i := 8) rfl
theorem jn_Branchwork_32 : (("Branchwork", 32, ⟨"Branchwork$Conflicts", "<init>", "()V"⟩, "Branchwork") : String × Nat × MethodName × String) ∈ jw_nest := List.mem_of_getElem? (i := 9) rfl
theorem jn_Branchwork_39 : (("Branchwork", 39, ⟨"Branchwork$Renames", "<init>", "()V"⟩, "Branchwork") : String × Nat × MethodName × String) ∈ jw_nest := List.mem_of_getElem? (i := 10) rfl
theorem jn_Branchwork_46 : (("Branchwork", 46, ⟨"Branchwork$Match", "<init>", "()V"⟩, "Branchwork") : String × Nat × MethodName × String) ∈ jw_nest := List.mem_of_getElem? (i := 11) rfl
def jw_ty0 (T : u_T) (j : Nat) : FieldType := (parseFieldDescriptor (T j).2.2.1).getD .int
theorem jw_tyok : ∀ q ∈ jw_cl, ∀ j, j < q.2.2 → parseFieldDescriptor (q.2.1 j).2.2.1 = some (jw_ty0 q.2.1 j) := by decide +kernel
theorem jw_nmok : ∀ q ∈ jw_cl, ∀ a, a < q.2.2 → ∀ b, b < q.2.2 → a ≠ b → (q.2.1 a).2.1 ≠ (q.2.1 b).2.1 := by decide +kernel
theorem jw_cw : ∀ q ∈ jw_cl, ∀ w ∈ u_ws q.1 q.2.1 q.2.2, w ∈ jw_T := by decide +kernel
theorem jw_ovk : ∀ C ∈ jw_ao, Cond.arrayOver (.object C) ∈ lw_tbl := by decide +kernel
theorem jw_nestk : ∀ q ∈ jw_nest, Cond.methodLinkNest q.1 q.2.1 q.2.2.1 q.2.2.2 ∈ lw_tbl := by decide +kernel
