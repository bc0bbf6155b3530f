section
-- ===== PART A: goes FIRST, ahead of the names: the tables' words, and 'selects' of the private methods out of them =====
/-- a private method of a class that the tables say can be made, by its rows of tables_1 -/
def lw_okq (q : MethodName × Nat) : Prop := (q.1.cls ≠ "java/lang/invoke/MethodHandle" ∧ q.1.cls ≠ "java/lang/invoke/VarHandle") ∧ Cond.instantiable q.1.cls q.2 ∈ tables_1 ∧ Cond.privateMethod q.1 ∈ tables_1 ∧ Cond.instanceMethod q.1 ∈ tables_1
theorem lw_p0 : lw_okq (⟨"java/lang/Throwable", "fillInStackTrace", "(I)Ljava/lang/Throwable;"⟩, 6) := ⟨⟨by decide +kernel, by decide +kernel⟩, List.mem_of_getElem? (i := 294) (by decide +kernel), List.mem_of_getElem? (i := 292) (by decide +kernel), List.mem_of_getElem? (i := 293) (by decide +kernel)⟩
theorem lw_p1 : lw_okq (⟨"Branchwork", "isClean", "()Z"⟩, 10) := ⟨⟨by decide +kernel, by decide +kernel⟩, List.mem_of_getElem? (i := 20) (by decide +kernel), List.mem_of_getElem? (i := 423) (by decide +kernel), List.mem_of_getElem? (i := 424) (by decide +kernel)⟩
theorem lw_p2 : lw_okq (⟨"Branchwork", "head", "()I"⟩, 10) := ⟨⟨by decide +kernel, by decide +kernel⟩, List.mem_of_getElem? (i := 20) (by decide +kernel), List.mem_of_getElem? (i := 427) (by decide +kernel), List.mem_of_getElem? (i := 428) (by decide +kernel)⟩
theorem lw_p3 : lw_okq (⟨"Branchwork$History", "numberOfTree", "(I)I"⟩, 10) := ⟨⟨by decide +kernel, by decide +kernel⟩, List.mem_of_getElem? (i := 59) (by decide +kernel), List.mem_of_getElem? (i := 453) (by decide +kernel), List.mem_of_getElem? (i := 454) (by decide +kernel)⟩
theorem lw_p4 : lw_okq (⟨"Branchwork$History", "numberOfContent", "(II)I"⟩, 10) := ⟨⟨by decide +kernel, by decide +kernel⟩, List.mem_of_getElem? (i := 59) (by decide +kernel), List.mem_of_getElem? (i := 459) (by decide +kernel), List.mem_of_getElem? (i := 460) (by decide +kernel)⟩
theorem lw_p5 : lw_okq (⟨"Branchwork", "requireBranch", "(I)V"⟩, 10) := ⟨⟨by decide +kernel, by decide +kernel⟩, List.mem_of_getElem? (i := 20) (by decide +kernel), List.mem_of_getElem? (i := 479) (by decide +kernel), List.mem_of_getElem? (i := 480) (by decide +kernel)⟩
theorem lw_p6 : lw_okq (⟨"Branchwork", "requireCleanAndUnmerged", "()V"⟩, 10) := ⟨⟨by decide +kernel, by decide +kernel⟩, List.mem_of_getElem? (i := 20) (by decide +kernel), List.mem_of_getElem? (i := 484) (by decide +kernel), List.mem_of_getElem? (i := 485) (by decide +kernel)⟩
theorem lw_p7 : lw_okq (⟨"Branchwork$Renames", "nearest", "(LBranchwork$Tree;ILBranchwork$Tree;)I"⟩, 4) := ⟨⟨by decide +kernel, by decide +kernel⟩, List.mem_of_getElem? (i := 123) (by decide +kernel), List.mem_of_getElem? (i := 529) (by decide +kernel), List.mem_of_getElem? (i := 530) (by decide +kernel)⟩
theorem lw_p8 : lw_okq (⟨"Branchwork$Match", "measure", "(LBranchwork$Content;LBranchwork$Content;)V"⟩, 3) := ⟨⟨by decide +kernel, by decide +kernel⟩, List.mem_of_getElem? (i := 129) (by decide +kernel), List.mem_of_getElem? (i := 539) (by decide +kernel), List.mem_of_getElem? (i := 540) (by decide +kernel)⟩
theorem lw_p9 : lw_okq (⟨"Branchwork$Merger", "mergeFile", "(LBranchwork$Tree;LBranchwork$Tree;LBranchwork$Tree;I)V"⟩, 7) := ⟨⟨by decide +kernel, by decide +kernel⟩, List.mem_of_getElem? (i := 99) (by decide +kernel), List.mem_of_getElem? (i := 549) (by decide +kernel), List.mem_of_getElem? (i := 550) (by decide +kernel)⟩
theorem lw_p10 : lw_okq (⟨"Branchwork$Merger", "mergeLeftOut", "(LBranchwork$Tree;LBranchwork$Tree;II)V"⟩, 7) := ⟨⟨by decide +kernel, by decide +kernel⟩, List.mem_of_getElem? (i := 99) (by decide +kernel), List.mem_of_getElem? (i := 557) (by decide +kernel), List.mem_of_getElem? (i := 558) (by decide +kernel)⟩
theorem lw_p11 : lw_okq (⟨"Branchwork$Merger", "bring", "(LBranchwork$Content;I)Z"⟩, 7) := ⟨⟨by decide +kernel, by decide +kernel⟩, List.mem_of_getElem? (i := 99) (by decide +kernel), List.mem_of_getElem? (i := 563) (by decide +kernel), List.mem_of_getElem? (i := 564) (by decide +kernel)⟩
theorem lw_p12 : lw_okq (⟨"Branchwork$Blender", "blendParts", "(LBranchwork$Content;)Z"⟩, 5) := ⟨⟨by decide +kernel, by decide +kernel⟩, List.mem_of_getElem? (i := 158) (by decide +kernel), List.mem_of_getElem? (i := 598) (by decide +kernel), List.mem_of_getElem? (i := 599) (by decide +kernel)⟩
theorem lw_p13 : lw_okq (⟨"Branchwork$Merger", "joinNew", "(LBranchwork$Content;LBranchwork$Content;I)V"⟩, 7) := ⟨⟨by decide +kernel, by decide +kernel⟩, List.mem_of_getElem? (i := 99) (by decide +kernel), List.mem_of_getElem? (i := 616) (by decide +kernel), List.mem_of_getElem? (i := 617) (by decide +kernel)⟩
theorem lw_p14 : lw_okq (⟨"Branchwork", "requireConflict", "(I)V"⟩, 10) := ⟨⟨by decide +kernel, by decide +kernel⟩, List.mem_of_getElem? (i := 20) (by decide +kernel), List.mem_of_getElem? (i := 651) (by decide +kernel), List.mem_of_getElem? (i := 652) (by decide +kernel)⟩
theorem lw_p15 : lw_okq (⟨"Branchwork$History", "meetContents", "(I)V"⟩, 10) := ⟨⟨by decide +kernel, by decide +kernel⟩, List.mem_of_getElem? (i := 59) (by decide +kernel), List.mem_of_getElem? (i := 691) (by decide +kernel), List.mem_of_getElem? (i := 692) (by decide +kernel)⟩
def lw_privs_1 : List (MethodName × Nat) := [(⟨"java/lang/Throwable", "fillInStackTrace", "(I)Ljava/lang/Throwable;"⟩, 6), (⟨"Branchwork", "isClean", "()Z"⟩, 10), (⟨"Branchwork", "head", "()I"⟩, 10), (⟨"Branchwork$History", "numberOfTree", "(I)I"⟩, 10), (⟨"Branchwork$History", "numberOfContent", "(II)I"⟩, 10), (⟨"Branchwork", "requireBranch", "(I)V"⟩, 10), (⟨"Branchwork", "requireCleanAndUnmerged", "()V"⟩, 10), (⟨"Branchwork$Renames", "nearest", "(LBranchwork$Tree;ILBranchwork$Tree;)I"⟩, 4), (⟨"Branchwork$Match", "measure", "(LBranchwork$Content;LBranchwork$Content;)V"⟩, 3), (⟨"Branchwork$Merger", "mergeFile", "(LBranchwork$Tree;LBranchwork$Tree;LBranchwork$Tree;I)V"⟩, 7), (⟨"Branchwork$Merger", "mergeLeftOut", "(LBranchwork$Tree;LBranchwork$Tree;II)V"⟩, 7), (⟨"Branchwork$Merger", "bring", "(LBranchwork$Content;I)Z"⟩, 7), (⟨"Branchwork$Blender", "blendParts", "(LBranchwork$Content;)Z"⟩, 5), (⟨"Branchwork$Merger", "joinNew", "(LBranchwork$Content;LBranchwork$Content;I)V"⟩, 7), (⟨"Branchwork", "requireConflict", "(I)V"⟩, 10), (⟨"Branchwork$History", "meetContents", "(I)V"⟩, 10)]
theorem lw_r1 : ∀ q ∈ lw_privs_1, lw_okq q := List.forall_mem_cons.mpr ⟨lw_p0, List.forall_mem_cons.mpr ⟨lw_p1, List.forall_mem_cons.mpr ⟨lw_p2, List.forall_mem_cons.mpr ⟨lw_p3, List.forall_mem_cons.mpr ⟨lw_p4, List.forall_mem_cons.mpr ⟨lw_p5, List.forall_mem_cons.mpr ⟨lw_p6, List.forall_mem_cons.mpr ⟨lw_p7, List.forall_mem_cons.mpr ⟨lw_p8, List.forall_mem_cons.mpr ⟨lw_p9, List.forall_mem_cons.mpr ⟨lw_p10, List.forall_mem_cons.mpr ⟨lw_p11, List.forall_mem_cons.mpr ⟨lw_p12, List.forall_mem_cons.mpr ⟨lw_p13, List.forall_mem_cons.mpr ⟨lw_p14, List.forall_mem_cons.mpr ⟨lw_p15, fun _ h => absurd h List.not_mem_nil⟩⟩⟩⟩⟩⟩⟩⟩⟩⟩⟩⟩⟩⟩⟩⟩
theorem lw_p16 : lw_okq (⟨"Branchwork", "reached", "()I"⟩, 10) := ⟨⟨by decide +kernel, by decide +kernel⟩, List.mem_of_getElem? (i := 20) (by decide +kernel), List.mem_of_getElem? (i := 696) (by decide +kernel), List.mem_of_getElem? (i := 697) (by decide +kernel)⟩
theorem lw_p17 : lw_okq (⟨"Branchwork", "requireCommit", "(I)V"⟩, 10) := ⟨⟨by decide +kernel, by decide +kernel⟩, List.mem_of_getElem? (i := 20) (by decide +kernel), List.mem_of_getElem? (i := 732) (by decide +kernel), List.mem_of_getElem? (i := 733) (by decide +kernel)⟩
theorem lw_p18 : lw_okq (⟨"Branchwork", "fileToShow", "(II)LBranchwork$Content;"⟩, 10) := ⟨⟨by decide +kernel, by decide +kernel⟩, List.mem_of_getElem? (i := 20) (by decide +kernel), List.mem_of_getElem? (i := 759) (by decide +kernel), List.mem_of_getElem? (i := 760) (by decide +kernel)⟩
theorem lw_p19 : lw_okq (⟨"Branchwork", "kindOfChange", "(LBranchwork$Tree;LBranchwork$Tree;I)I"⟩, 10) := ⟨⟨by decide +kernel, by decide +kernel⟩, List.mem_of_getElem? (i := 20) (by decide +kernel), List.mem_of_getElem? (i := 786) (by decide +kernel), List.mem_of_getElem? (i := 787) (by decide +kernel)⟩
theorem lw_p20 : lw_okq (⟨"Branchwork", "spotInParent", "(III)I"⟩, 10) := ⟨⟨by decide +kernel, by decide +kernel⟩, List.mem_of_getElem? (i := 20) (by decide +kernel), List.mem_of_getElem? (i := 812) (by decide +kernel), List.mem_of_getElem? (i := 813) (by decide +kernel)⟩
theorem lw_p21 : lw_okq (⟨"Branchwork", "foldCommit", "(JI)J"⟩, 10) := ⟨⟨by decide +kernel, by decide +kernel⟩, List.mem_of_getElem? (i := 20) (by decide +kernel), List.mem_of_getElem? (i := 846) (by decide +kernel), List.mem_of_getElem? (i := 847) (by decide +kernel)⟩
def lw_privs_2 : List (MethodName × Nat) := [(⟨"Branchwork", "reached", "()I"⟩, 10), (⟨"Branchwork", "requireCommit", "(I)V"⟩, 10), (⟨"Branchwork", "fileToShow", "(II)LBranchwork$Content;"⟩, 10), (⟨"Branchwork", "kindOfChange", "(LBranchwork$Tree;LBranchwork$Tree;I)I"⟩, 10), (⟨"Branchwork", "spotInParent", "(III)I"⟩, 10), (⟨"Branchwork", "foldCommit", "(JI)J"⟩, 10)]
theorem lw_r2 : ∀ q ∈ lw_privs_2, lw_okq q := List.forall_mem_cons.mpr ⟨lw_p16, List.forall_mem_cons.mpr ⟨lw_p17, List.forall_mem_cons.mpr ⟨lw_p18, List.forall_mem_cons.mpr ⟨lw_p19, List.forall_mem_cons.mpr ⟨lw_p20, List.forall_mem_cons.mpr ⟨lw_p21, fun _ h => absurd h List.not_mem_nil⟩⟩⟩⟩⟩⟩
def lw_privs : List (MethodName × Nat) := lw_privs_1 ++ (lw_privs_2)
def lw_tbl : List Cond := k2_sels lw_privs ++ tables_1
theorem lw_privs_ok : ∀ q ∈ lw_privs, lw_okq q := by
  show ∀ q ∈ lw_privs_1 ++ (lw_privs_2), lw_okq q
  exact List.forall_mem_append.mpr ⟨lw_r1, lw_r2⟩
abbrev jw_M : Type := MethodName × ByteArray × Nat × Option FieldType
abbrev jw_Mem : Type := Nat → Option va_E
abbrev jw_O : Type := Launch × va_G × (Nat → ClassId) × Nat × Nat
abbrev jw_K : Type := Program × Env × Room × State × MethodId × Array Value × List Frame × Method × Code × (State → Prop)
def jw_T : List Cond := lw_tbl.filter goodWord
theorem jw_mem {w : Cond} (i : Nat) (h : lw_tbl[i]? = some w) (g : goodWord w = true) : w ∈ jw_T := List.mem_filter.mpr ⟨List.mem_of_getElem? h, g⟩
theorem jq_0 : Cond.selects "java/lang/Throwable" ⟨"java/lang/Throwable", "fillInStackTrace", "(I)Ljava/lang/Throwable;"⟩ ⟨"java/lang/Throwable", "fillInStackTrace", "(I)Ljava/lang/Throwable;"⟩ ∈ jw_T := jw_mem 0 (by decide +kernel) (by decide +kernel)
theorem jq_1 : Cond.selects "Branchwork" ⟨"Branchwork", "isClean", "()Z"⟩ ⟨"Branchwork", "isClean", "()Z"⟩ ∈ jw_T := jw_mem 1 (by decide +kernel) (by decide +kernel)
theorem jq_2 : Cond.selects "Branchwork" ⟨"Branchwork", "head", "()I"⟩ ⟨"Branchwork", "head", "()I"⟩ ∈ jw_T := jw_mem 2 (by decide +kernel) (by decide +kernel)
theorem jq_3 : Cond.selects "Branchwork$History" ⟨"Branchwork$History", "numberOfTree", "(I)I"⟩ ⟨"Branchwork$History", "numberOfTree", "(I)I"⟩ ∈ jw_T := jw_mem 3 (by decide +kernel) (by decide +kernel)
theorem jq_4 : Cond.selects "Branchwork$History" ⟨"Branchwork$History", "numberOfContent", "(II)I"⟩ ⟨"Branchwork$History", "numberOfContent", "(II)I"⟩ ∈ jw_T := jw_mem 4 (by decide +kernel) (by decide +kernel)
theorem jq_5 : Cond.selects "Branchwork" ⟨"Branchwork", "requireBranch", "(I)V"⟩ ⟨"Branchwork", "requireBranch", "(I)V"⟩ ∈ jw_T := jw_mem 5 (by decide +kernel) (by decide +kernel)
theorem jq_6 : Cond.selects "Branchwork" ⟨"Branchwork", "requireCleanAndUnmerged", "()V"⟩ ⟨"Branchwork", "requireCleanAndUnmerged", "()V"⟩ ∈ jw_T := jw_mem 6 (by decide +kernel) (by decide +kernel)
theorem jq_7 : Cond.selects "Branchwork$Renames" ⟨"Branchwork$Renames", "nearest", "(LBranchwork$Tree;ILBranchwork$Tree;)I"⟩ ⟨"Branchwork$Renames", "nearest", "(LBranchwork$Tree;ILBranchwork$Tree;)I"⟩ ∈ jw_T := jw_mem 7 (by decide +kernel) (by decide +kernel)
theorem jq_8 : Cond.selects "Branchwork$Match" ⟨"Branchwork$Match", "measure", "(LBranchwork$Content;LBranchwork$Content;)V"⟩ ⟨"Branchwork$Match", "measure", "(LBranchwork$Content;LBranchwork$Content;)V"⟩ ∈ jw_T := jw_mem 8 (by decide +kernel) (by decide +kernel)
theorem jq_9 : Cond.selects "Branchwork$Merger" ⟨"Branchwork$Merger", "mergeFile", "(LBranchwork$Tree;LBranchwork$Tree;LBranchwork$Tree;I)V"⟩ ⟨"Branchwork$Merger", "mergeFile", "(LBranchwork$Tree;LBranchwork$Tree;LBranchwork$Tree;I)V"⟩ ∈ jw_T := jw_mem 9 (by decide +kernel) (by decide +kernel)
theorem jq_10 : Cond.selects "Branchwork$Merger" ⟨"Branchwork$Merger", "mergeLeftOut", "(LBranchwork$Tree;LBranchwork$Tree;II)V"⟩ ⟨"Branchwork$Merger", "mergeLeftOut", "(LBranchwork$Tree;LBranchwork$Tree;II)V"⟩ ∈ jw_T := jw_mem 10 (by decide +kernel) (by decide +kernel)
theorem jq_11 : Cond.selects "Branchwork$Merger" ⟨"Branchwork$Merger", "bring", "(LBranchwork$Content;I)Z"⟩ ⟨"Branchwork$Merger", "bring", "(LBranchwork$Content;I)Z"⟩ ∈ jw_T := jw_mem 11 (by decide +kernel) (by decide +kernel)
theorem jq_12 : Cond.selects "Branchwork$Blender" ⟨"Branchwork$Blender", "blendParts", "(LBranchwork$Content;)Z"⟩ ⟨"Branchwork$Blender", "blendParts", "(LBranchwork$Content;)Z"⟩ ∈ jw_T := jw_mem 12 (by decide +kernel) (by decide +kernel)
theorem jq_13 : Cond.selects "Branchwork$Merger" ⟨"Branchwork$Merger", "joinNew", "(LBranchwork$Content;LBranchwork$Content;I)V"⟩ ⟨"Branchwork$Merger", "joinNew", "(LBranchwork$Content;LBranchwork$Content;I)V"⟩ ∈ jw_T := jw_mem 13 (by decide +kernel) (by decide +kernel)
theorem jq_14 : Cond.selects "Branchwork" ⟨"Branchwork", "requireConflict", "(I)V"⟩ ⟨"Branchwork", "requireConflict", "(I)V"⟩ ∈ jw_T := jw_mem 14 (by decide +kernel) (by decide +kernel)
theorem jq_15 : Cond.selects "Branchwork$History" ⟨"Branchwork$History", "meetContents", "(I)V"⟩ ⟨"Branchwork$History", "meetContents", "(I)V"⟩ ∈ jw_T := jw_mem 15 (by decide +kernel) (by decide +kernel)
theorem jq_16 : Cond.selects "Branchwork" ⟨"Branchwork", "reached", "()I"⟩ ⟨"Branchwork", "reached", "()I"⟩ ∈ jw_T := jw_mem 16 (by decide +kernel) (by decide +kernel)
theorem jq_17 : Cond.selects "Branchwork" ⟨"Branchwork", "requireCommit", "(I)V"⟩ ⟨"Branchwork", "requireCommit", "(I)V"⟩ ∈ jw_T := jw_mem 17 (by decide +kernel) (by decide +kernel)
theorem jq_18 : Cond.selects "Branchwork" ⟨"Branchwork", "fileToShow", "(II)LBranchwork$Content;"⟩ ⟨"Branchwork", "fileToShow", "(II)LBranchwork$Content;"⟩ ∈ jw_T := jw_mem 18 (by decide +kernel) (by decide +kernel)
theorem jq_19 : Cond.selects "Branchwork" ⟨"Branchwork", "kindOfChange", "(LBranchwork$Tree;LBranchwork$Tree;I)I"⟩ ⟨"Branchwork", "kindOfChange", "(LBranchwork$Tree;LBranchwork$Tree;I)I"⟩ ∈ jw_T := jw_mem 19 (by decide +kernel) (by decide +kernel)
theorem jq_20 : Cond.selects "Branchwork" ⟨"Branchwork", "spotInParent", "(III)I"⟩ ⟨"Branchwork", "spotInParent", "(III)I"⟩ ∈ jw_T := jw_mem 20 (by decide +kernel) (by decide +kernel)
theorem jq_21 : Cond.selects "Branchwork" ⟨"Branchwork", "foldCommit", "(JI)J"⟩ ⟨"Branchwork", "foldCommit", "(JI)J"⟩ ∈ jw_T := jw_mem 21 (by decide +kernel) (by decide +kernel)
theorem jq_22 : (Jvm.Cond.initialized "BranchworkLaw") ∈ jw_T := jw_mem 22 (by decide +kernel) (by decide +kernel)
theorem jq_23 : (Jvm.Cond.initialized "Branchwork") ∈ jw_T := jw_mem 23 (by decide +kernel) (by decide +kernel)
theorem jq_24 : (Jvm.Cond.initialized "Branchwork$Tree") ∈ jw_T := jw_mem 24 (by decide +kernel) (by decide +kernel)
theorem jq_25 : (Jvm.Cond.initialized "Branchwork$Content") ∈ jw_T := jw_mem 25 (by decide +kernel) (by decide +kernel)
theorem jq_26 : (Jvm.Cond.initialized "Branchwork$History") ∈ jw_T := jw_mem 26 (by decide +kernel) (by decide +kernel)
theorem jq_27 : (Jvm.Cond.initialized "Branchwork$Merger") ∈ jw_T := jw_mem 27 (by decide +kernel) (by decide +kernel)
theorem jq_28 : (Jvm.Cond.initialized "Branchwork$Conflicts") ∈ jw_T := jw_mem 28 (by decide +kernel) (by decide +kernel)
theorem jq_29 : (Jvm.Cond.initialized "Branchwork$Renames") ∈ jw_T := jw_mem 29 (by decide +kernel) (by decide +kernel)
theorem jq_30 : (Jvm.Cond.initialized "Branchwork$Match") ∈ jw_T := jw_mem 30 (by decide +kernel) (by decide +kernel)
theorem jq_31 : (Jvm.Cond.initialized "Branchwork$Blender") ∈ jw_T := jw_mem 31 (by decide +kernel) (by decide +kernel)
theorem jq_32 : (Jvm.Cond.initialized "java/util/Arrays") ∈ jw_T := jw_mem 32 (by decide +kernel) (by decide +kernel)
theorem jq_33 : (Jvm.Cond.initialized "java/lang/Throwable") ∈ jw_T := jw_mem 33 (by decide +kernel) (by decide +kernel)
theorem jq_34 : (Jvm.Cond.initialized "java/lang/Exception") ∈ jw_T := jw_mem 34 (by decide +kernel) (by decide +kernel)
theorem jq_35 : (Jvm.Cond.initialized "java/lang/RuntimeException") ∈ jw_T := jw_mem 35 (by decide +kernel) (by decide +kernel)
theorem jq_36 : (Jvm.Cond.initialized "java/lang/IndexOutOfBoundsException") ∈ jw_T := jw_mem 36 (by decide +kernel) (by decide +kernel)
theorem jq_37 : (Jvm.Cond.initialized "java/lang/Math") ∈ jw_T := jw_mem 37 (by decide +kernel) (by decide +kernel)
theorem jq_38 : (Jvm.Cond.initialized "java/lang/IllegalArgumentException") ∈ jw_T := jw_mem 38 (by decide +kernel) (by decide +kernel)
theorem jq_39 : (Jvm.Cond.initialized "java/lang/IllegalStateException") ∈ jw_T := jw_mem 39 (by decide +kernel) (by decide +kernel)
theorem jq_40 : (Jvm.Cond.initialized "java/lang/Integer") ∈ jw_T := jw_mem 40 (by decide +kernel) (by decide +kernel)
theorem jq_41 : (Jvm.Cond.classLink "BranchworkLaw" (9 : Nat) "Branchwork") ∈ jw_T := jw_mem 41 (by decide +kernel) (by decide +kernel)
theorem jq_42 : (Jvm.Cond.instantiable "Branchwork" (10 : Nat)) ∈ jw_T := jw_mem 42 (by decide +kernel) (by decide +kernel)
theorem jq_43 : (Jvm.Cond.methodLink "BranchworkLaw" (11 : Nat) ({ cls := "Branchwork", name := "<init>", desc := "()V" } : Jvm.MethodName)) ∈ jw_T := jw_mem 43 (by decide +kernel) (by decide +kernel)
theorem jq_44 : (Jvm.Cond.instanceMethod ({ cls := "Branchwork", name := "<init>", desc := "()V" } : Jvm.MethodName)) ∈ jw_T := jw_mem 44 (by decide +kernel) (by decide +kernel)
theorem jq_45 : (Jvm.Cond.code ({ cls := "Branchwork", name := "<init>", desc := "()V" } : Jvm.MethodName) prog_1_method_1_code (1 : Nat) (Option.none : Option Jvm.ClassFile.FieldType)) ∈ jw_T := jw_mem 45 (by decide +kernel) (by decide +kernel)
theorem jq_46 : (Jvm.Cond.methodLink "Branchwork" (3 : Nat) ({ cls := "java/lang/Object", name := "<init>", desc := "()V" } : Jvm.MethodName)) ∈ jw_T := jw_mem 46 (by decide +kernel) (by decide +kernel)
theorem jq_47 : (Jvm.Cond.instanceMethod ({ cls := "java/lang/Object", name := "<init>", desc := "()V" } : Jvm.MethodName)) ∈ jw_T := jw_mem 47 (by decide +kernel) (by decide +kernel)
theorem jq_48 : (Jvm.Cond.code ({ cls := "java/lang/Object", name := "<init>", desc := "()V" } : Jvm.MethodName) object_method_1_code (1 : Nat) (Option.none : Option Jvm.ClassFile.FieldType)) ∈ jw_T := jw_mem 48 (by decide +kernel) (by decide +kernel)
theorem jq_49 : (Jvm.Cond.classLink "Branchwork" (9 : Nat) "Branchwork$Tree") ∈ jw_T := jw_mem 49 (by decide +kernel) (by decide +kernel)
theorem jq_50 : (Jvm.Cond.instantiable "Branchwork$Tree" (2 : Nat)) ∈ jw_T := jw_mem 50 (by decide +kernel) (by decide +kernel)
theorem jq_51 : (Jvm.Cond.methodLink "Branchwork" (11 : Nat) ({ cls := "Branchwork$Tree", name := "<init>", desc := "()V" } : Jvm.MethodName)) ∈ jw_T := jw_mem 51 (by decide +kernel) (by decide +kernel)
theorem jq_52 : (Jvm.Cond.instanceMethod ({ cls := "Branchwork$Tree", name := "<init>", desc := "()V" } : Jvm.MethodName)) ∈ jw_T := jw_mem 52 (by decide +kernel) (by decide +kernel)
theorem jq_53 : (Jvm.Cond.code ({ cls := "Branchwork$Tree", name := "<init>", desc := "()V" } : Jvm.MethodName) prog_9_method_1_code (2 : Nat) (Option.none : Option Jvm.ClassFile.FieldType)) ∈ jw_T := jw_mem 53 (by decide +kernel) (by decide +kernel)
theorem jq_54 : (Jvm.Cond.methodLink "Branchwork$Tree" (3 : Nat) ({ cls := "java/lang/Object", name := "<init>", desc := "()V" } : Jvm.MethodName)) ∈ jw_T := jw_mem 54 (by decide +kernel) (by decide +kernel)
theorem jq_55 : (Jvm.Cond.classLink "Branchwork$Tree" (9 : Nat) "Branchwork$Content") ∈ jw_T := jw_mem 55 (by decide +kernel) (by decide +kernel)
theorem jq_57 : (Jvm.Cond.instantiable "Branchwork$Content" (3 : Nat)) ∈ jw_T := jw_mem 57 (by decide +kernel) (by decide +kernel)
theorem jq_59 : (Jvm.Cond.instanceMethod ({ cls := "Branchwork$Content", name := "<init>", desc := "()V" } : Jvm.MethodName)) ∈ jw_T := jw_mem 59 (by decide +kernel) (by decide +kernel)
theorem jq_60 : (Jvm.Cond.code ({ cls := "Branchwork$Content", name := "<init>", desc := "()V" } : Jvm.MethodName) prog_4_method_1_code (1 : Nat) (Option.none : Option Jvm.ClassFile.FieldType)) ∈ jw_T := jw_mem 60 (by decide +kernel) (by decide +kernel)
theorem jq_61 : (Jvm.Cond.methodLink "Branchwork$Content" (3 : Nat) ({ cls := "java/lang/Object", name := "<init>", desc := "()V" } : Jvm.MethodName)) ∈ jw_T := jw_mem 61 (by decide +kernel) (by decide +kernel)
theorem jq_62 : (Jvm.Cond.fieldLink "Branchwork$Content" (9 : Nat) "Branchwork$Content" "lines" "[I") ∈ jw_T := jw_mem 62 (by decide +kernel) (by decide +kernel)
theorem jq_63 : (Jvm.Cond.fieldLink "Branchwork$Content" (15 : Nat) "Branchwork$Content" "count" "I") ∈ jw_T := jw_mem 63 (by decide +kernel) (by decide +kernel)
theorem jq_64 : (Jvm.Cond.fieldLink "Branchwork$Content" (19 : Nat) "Branchwork$Content" "present" "Z") ∈ jw_T := jw_mem 64 (by decide +kernel) (by decide +kernel)
theorem jq_72 : (Jvm.Cond.arrayClass Jvm.ClassFile.FieldType.int) ∈ jw_T := jw_mem 72 (by decide +kernel) (by decide +kernel)
theorem jq_73 : (Jvm.Cond.fieldLink "Branchwork$Tree" (11 : Nat) "Branchwork$Tree" "files" "[LBranchwork$Content;") ∈ jw_T := jw_mem 73 (by decide +kernel) (by decide +kernel)
theorem jq_74 : (Jvm.Cond.fieldLink "Branchwork$Tree" (18 : Nat) "Branchwork$Tree" "outside" "LBranchwork$Content;") ∈ jw_T := jw_mem 74 (by decide +kernel) (by decide +kernel)
theorem jq_80 : (Jvm.Cond.classLink "Branchwork" (16 : Nat) "Branchwork$History") ∈ jw_T := jw_mem 80 (by decide +kernel) (by decide +kernel)
theorem jq_81 : (Jvm.Cond.instantiable "Branchwork$History" (10 : Nat)) ∈ jw_T := jw_mem 81 (by decide +kernel) (by decide +kernel)
theorem jq_82 : (Jvm.Cond.methodLink "Branchwork" (18 : Nat) ({ cls := "Branchwork$History", name := "<init>", desc := "()V" } : Jvm.MethodName)) ∈ jw_T := jw_mem 82 (by decide +kernel) (by decide +kernel)
theorem jq_83 : (Jvm.Cond.instanceMethod ({ cls := "Branchwork$History", name := "<init>", desc := "()V" } : Jvm.MethodName)) ∈ jw_T := jw_mem 83 (by decide +kernel) (by decide +kernel)
theorem jq_84 : (Jvm.Cond.code ({ cls := "Branchwork$History", name := "<init>", desc := "()V" } : Jvm.MethodName) prog_5_method_1_code (2 : Nat) (Option.none : Option Jvm.ClassFile.FieldType)) ∈ jw_T := jw_mem 84 (by decide +kernel) (by decide +kernel)
theorem jq_85 : (Jvm.Cond.methodLink "Branchwork$History" (3 : Nat) ({ cls := "java/lang/Object", name := "<init>", desc := "()V" } : Jvm.MethodName)) ∈ jw_T := jw_mem 85 (by decide +kernel) (by decide +kernel)
theorem jq_86 : (Jvm.Cond.classLink "Branchwork$History" (9 : Nat) "Branchwork$Tree") ∈ jw_T := jw_mem 86 (by decide +kernel) (by decide +kernel)
theorem jq_88 : (Jvm.Cond.methodLink "Branchwork$History" (17 : Nat) ({ cls := "Branchwork$Tree", name := "<init>", desc := "()V" } : Jvm.MethodName)) ∈ jw_T := jw_mem 88 (by decide +kernel) (by decide +kernel)
theorem jq_89 : (Jvm.Cond.fieldLink "Branchwork$History" (11 : Nat) "Branchwork$History" "trees" "[LBranchwork$Tree;") ∈ jw_T := jw_mem 89 (by decide +kernel) (by decide +kernel)
theorem jq_90 : (Jvm.Cond.fieldLink "Branchwork$History" (18 : Nat) "Branchwork$History" "nothing" "LBranchwork$Tree;") ∈ jw_T := jw_mem 90 (by decide +kernel) (by decide +kernel)
theorem jq_91 : (Jvm.Cond.fieldLink "Branchwork$History" (22 : Nat) "Branchwork$History" "notes" "[I") ∈ jw_T := jw_mem 91 (by decide +kernel) (by decide +kernel)
theorem jq_92 : (Jvm.Cond.fieldLink "Branchwork$History" (26 : Nat) "Branchwork$History" "firstParents" "[I") ∈ jw_T := jw_mem 92 (by decide +kernel) (by decide +kernel)
theorem jq_93 : (Jvm.Cond.fieldLink "Branchwork$History" (29 : Nat) "Branchwork$History" "secondParents" "[I") ∈ jw_T := jw_mem 93 (by decide +kernel) (by decide +kernel)
theorem jq_94 : (Jvm.Cond.fieldLink "Branchwork$History" (32 : Nat) "Branchwork$History" "treeNumbers" "[I") ∈ jw_T := jw_mem 94 (by decide +kernel) (by decide +kernel)
theorem jq_95 : (Jvm.Cond.fieldLink "Branchwork$History" (35 : Nat) "Branchwork$History" "contentNumbers" "[I") ∈ jw_T := jw_mem 95 (by decide +kernel) (by decide +kernel)
theorem jq_96 : (Jvm.Cond.fieldLink "Branchwork$History" (38 : Nat) "Branchwork$History" "metContents" "[I") ∈ jw_T := jw_mem 96 (by decide +kernel) (by decide +kernel)
theorem jq_97 : (Jvm.Cond.fieldLink "Branchwork$History" (41 : Nat) "Branchwork$History" "count" "I") ∈ jw_T := jw_mem 97 (by decide +kernel) (by decide +kernel)
theorem jq_98 : (Jvm.Cond.fieldLink "Branchwork$History" (45 : Nat) "Branchwork$History" "kept" "I") ∈ jw_T := jw_mem 98 (by decide +kernel) (by decide +kernel)
theorem jq_120 : (Jvm.Cond.classLink "Branchwork" (23 : Nat) "Branchwork$Merger") ∈ jw_T := jw_mem 120 (by decide +kernel) (by decide +kernel)
theorem jq_121 : (Jvm.Cond.instantiable "Branchwork$Merger" (7 : Nat)) ∈ jw_T := jw_mem 121 (by decide +kernel) (by decide +kernel)
theorem jq_123 : (Jvm.Cond.instanceMethod ({ cls := "Branchwork$Merger", name := "<init>", desc := "()V" } : Jvm.MethodName)) ∈ jw_T := jw_mem 123 (by decide +kernel) (by decide +kernel)
theorem jq_124 : (Jvm.Cond.code ({ cls := "Branchwork$Merger", name := "<init>", desc := "()V" } : Jvm.MethodName) prog_7_method_1_code (1 : Nat) (Option.none : Option Jvm.ClassFile.FieldType)) ∈ jw_T := jw_mem 124 (by decide +kernel) (by decide +kernel)
theorem jq_125 : (Jvm.Cond.methodLink "Branchwork$Merger" (3 : Nat) ({ cls := "java/lang/Object", name := "<init>", desc := "()V" } : Jvm.MethodName)) ∈ jw_T := jw_mem 125 (by decide +kernel) (by decide +kernel)
theorem jq_126 : (Jvm.Cond.classLink "Branchwork$Merger" (9 : Nat) "Branchwork$Tree") ∈ jw_T := jw_mem 126 (by decide +kernel) (by decide +kernel)
theorem jq_127 : (Jvm.Cond.methodLink "Branchwork$Merger" (11 : Nat) ({ cls := "Branchwork$Tree", name := "<init>", desc := "()V" } : Jvm.MethodName)) ∈ jw_T := jw_mem 127 (by decide +kernel) (by decide +kernel)
theorem jq_128 : (Jvm.Cond.classLink "Branchwork$Merger" (18 : Nat) "Branchwork$Conflicts") ∈ jw_T := jw_mem 128 (by decide +kernel) (by decide +kernel)
theorem jq_129 : (Jvm.Cond.instantiable "Branchwork$Conflicts" (3 : Nat)) ∈ jw_T := jw_mem 129 (by decide +kernel) (by decide +kernel)
theorem jq_131 : (Jvm.Cond.instanceMethod ({ cls := "Branchwork$Conflicts", name := "<init>", desc := "()V" } : Jvm.MethodName)) ∈ jw_T := jw_mem 131 (by decide +kernel) (by decide +kernel)
theorem jq_132 : (Jvm.Cond.code ({ cls := "Branchwork$Conflicts", name := "<init>", desc := "()V" } : Jvm.MethodName) prog_3_method_1_code (1 : Nat) (Option.none : Option Jvm.ClassFile.FieldType)) ∈ jw_T := jw_mem 132 (by decide +kernel) (by decide +kernel)
theorem jq_133 : (Jvm.Cond.methodLink "Branchwork$Conflicts" (3 : Nat) ({ cls := "java/lang/Object", name := "<init>", desc := "()V" } : Jvm.MethodName)) ∈ jw_T := jw_mem 133 (by decide +kernel) (by decide +kernel)
theorem jq_134 : (Jvm.Cond.fieldLink "Branchwork$Conflicts" (9 : Nat) "Branchwork$Conflicts" "codes" "[I") ∈ jw_T := jw_mem 134 (by decide +kernel) (by decide +kernel)
theorem jq_135 : (Jvm.Cond.fieldLink "Branchwork$Conflicts" (15 : Nat) "Branchwork$Conflicts" "paths" "[I") ∈ jw_T := jw_mem 135 (by decide +kernel) (by decide +kernel)
theorem jq_136 : (Jvm.Cond.fieldLink "Branchwork$Conflicts" (18 : Nat) "Branchwork$Conflicts" "count" "I") ∈ jw_T := jw_mem 136 (by decide +kernel) (by decide +kernel)
theorem jq_144 : (Jvm.Cond.classLink "Branchwork$Merger" (25 : Nat) "Branchwork$Renames") ∈ jw_T := jw_mem 144 (by decide +kernel) (by decide +kernel)
theorem jq_145 : (Jvm.Cond.instantiable "Branchwork$Renames" (4 : Nat)) ∈ jw_T := jw_mem 145 (by decide +kernel) (by decide +kernel)
theorem jq_147 : (Jvm.Cond.instanceMethod ({ cls := "Branchwork$Renames", name := "<init>", desc := "()V" } : Jvm.MethodName)) ∈ jw_T := jw_mem 147 (by decide +kernel) (by decide +kernel)
theorem jq_148 : (Jvm.Cond.code ({ cls := "Branchwork$Renames", name := "<init>", desc := "()V" } : Jvm.MethodName) prog_8_method_1_code (1 : Nat) (Option.none : Option Jvm.ClassFile.FieldType)) ∈ jw_T := jw_mem 148 (by decide +kernel) (by decide +kernel)
theorem jq_149 : (Jvm.Cond.methodLink "Branchwork$Renames" (3 : Nat) ({ cls := "java/lang/Object", name := "<init>", desc := "()V" } : Jvm.MethodName)) ∈ jw_T := jw_mem 149 (by decide +kernel) (by decide +kernel)
theorem jq_150 : (Jvm.Cond.classLink "Branchwork$Renames" (18 : Nat) "Branchwork$Match") ∈ jw_T := jw_mem 150 (by decide +kernel) (by decide +kernel)
theorem jq_151 : (Jvm.Cond.instantiable "Branchwork$Match" (3 : Nat)) ∈ jw_T := jw_mem 151 (by decide +kernel) (by decide +kernel)
theorem jq_153 : (Jvm.Cond.instanceMethod ({ cls := "Branchwork$Match", name := "<init>", desc := "()V" } : Jvm.MethodName)) ∈ jw_T := jw_mem 153 (by decide +kernel) (by decide +kernel)
theorem jq_154 : (Jvm.Cond.code ({ cls := "Branchwork$Match", name := "<init>", desc := "()V" } : Jvm.MethodName) prog_6_method_1_code (1 : Nat) (Option.none : Option Jvm.ClassFile.FieldType)) ∈ jw_T := jw_mem 154 (by decide +kernel) (by decide +kernel)
theorem jq_155 : (Jvm.Cond.methodLink "Branchwork$Match" (3 : Nat) ({ cls := "java/lang/Object", name := "<init>", desc := "()V" } : Jvm.MethodName)) ∈ jw_T := jw_mem 155 (by decide +kernel) (by decide +kernel)
theorem jq_156 : (Jvm.Cond.fieldLink "Branchwork$Match" (11 : Nat) "Branchwork$Match" "common" "[I") ∈ jw_T := jw_mem 156 (by decide +kernel) (by decide +kernel)
theorem jq_157 : (Jvm.Cond.fieldLink "Branchwork$Match" (15 : Nat) "Branchwork$Match" "partnersInB" "[I") ∈ jw_T := jw_mem 157 (by decide +kernel) (by decide +kernel)
theorem jq_158 : (Jvm.Cond.fieldLink "Branchwork$Match" (18 : Nat) "Branchwork$Match" "partnersInA" "[I") ∈ jw_T := jw_mem 158 (by decide +kernel) (by decide +kernel)
theorem jq_166 : (Jvm.Cond.fieldLink "Branchwork$Renames" (9 : Nat) "Branchwork$Renames" "fates" "[I") ∈ jw_T := jw_mem 166 (by decide +kernel) (by decide +kernel)
theorem jq_167 : (Jvm.Cond.fieldLink "Branchwork$Renames" (15 : Nat) "Branchwork$Renames" "sources" "[I") ∈ jw_T := jw_mem 167 (by decide +kernel) (by decide +kernel)
theorem jq_168 : (Jvm.Cond.fieldLink "Branchwork$Renames" (21 : Nat) "Branchwork$Renames" "match" "LBranchwork$Match;") ∈ jw_T := jw_mem 168 (by decide +kernel) (by decide +kernel)
theorem jq_169 : (Jvm.Cond.fieldLink "Branchwork$Renames" (25 : Nat) "Branchwork$Renames" "count" "I") ∈ jw_T := jw_mem 169 (by decide +kernel) (by decide +kernel)
theorem jq_179 : (Jvm.Cond.classLink "Branchwork$Merger" (35 : Nat) "Branchwork$Blender") ∈ jw_T := jw_mem 179 (by decide +kernel) (by decide +kernel)
theorem jq_180 : (Jvm.Cond.instantiable "Branchwork$Blender" (5 : Nat)) ∈ jw_T := jw_mem 180 (by decide +kernel) (by decide +kernel)
theorem jq_182 : (Jvm.Cond.instanceMethod ({ cls := "Branchwork$Blender", name := "<init>", desc := "()V" } : Jvm.MethodName)) ∈ jw_T := jw_mem 182 (by decide +kernel) (by decide +kernel)
theorem jq_183 : (Jvm.Cond.code ({ cls := "Branchwork$Blender", name := "<init>", desc := "()V" } : Jvm.MethodName) prog_2_method_1_code (1 : Nat) (Option.none : Option Jvm.ClassFile.FieldType)) ∈ jw_T := jw_mem 183 (by decide +kernel) (by decide +kernel)
theorem jq_184 : (Jvm.Cond.methodLink "Branchwork$Blender" (3 : Nat) ({ cls := "java/lang/Object", name := "<init>", desc := "()V" } : Jvm.MethodName)) ∈ jw_T := jw_mem 184 (by decide +kernel) (by decide +kernel)
theorem jq_185 : (Jvm.Cond.classLink "Branchwork$Blender" (9 : Nat) "Branchwork$Match") ∈ jw_T := jw_mem 185 (by decide +kernel) (by decide +kernel)
theorem jq_187 : (Jvm.Cond.classLink "Branchwork$Blender" (21 : Nat) "Branchwork$Content") ∈ jw_T := jw_mem 187 (by decide +kernel) (by decide +kernel)
theorem jq_189 : (Jvm.Cond.fieldLink "Branchwork$Blender" (12 : Nat) "Branchwork$Blender" "withOurs" "LBranchwork$Match;") ∈ jw_T := jw_mem 189 (by decide +kernel) (by decide +kernel)
theorem jq_190 : (Jvm.Cond.fieldLink "Branchwork$Blender" (18 : Nat) "Branchwork$Blender" "withTheirs" "LBranchwork$Match;") ∈ jw_T := jw_mem 190 (by decide +kernel) (by decide +kernel)
theorem jq_191 : (Jvm.Cond.fieldLink "Branchwork$Blender" (24 : Nat) "Branchwork$Blender" "basePart" "LBranchwork$Content;") ∈ jw_T := jw_mem 191 (by decide +kernel) (by decide +kernel)
theorem jq_192 : (Jvm.Cond.fieldLink "Branchwork$Blender" (28 : Nat) "Branchwork$Blender" "ourPart" "LBranchwork$Content;") ∈ jw_T := jw_mem 192 (by decide +kernel) (by decide +kernel)
theorem jq_193 : (Jvm.Cond.fieldLink "Branchwork$Blender" (31 : Nat) "Branchwork$Blender" "theirPart" "LBranchwork$Content;") ∈ jw_T := jw_mem 193 (by decide +kernel) (by decide +kernel)
theorem jq_205 : (Jvm.Cond.classLink "Branchwork$Merger" (42 : Nat) "Branchwork$Content") ∈ jw_T := jw_mem 205 (by decide +kernel) (by decide +kernel)
theorem jq_207 : (Jvm.Cond.fieldLink "Branchwork$Merger" (12 : Nat) "Branchwork$Merger" "result" "LBranchwork$Tree;") ∈ jw_T := jw_mem 207 (by decide +kernel) (by decide +kernel)
theorem jq_208 : (Jvm.Cond.fieldLink "Branchwork$Merger" (21 : Nat) "Branchwork$Merger" "told" "LBranchwork$Conflicts;") ∈ jw_T := jw_mem 208 (by decide +kernel) (by decide +kernel)
theorem jq_209 : (Jvm.Cond.fieldLink "Branchwork$Merger" (28 : Nat) "Branchwork$Merger" "toOurs" "LBranchwork$Renames;") ∈ jw_T := jw_mem 209 (by decide +kernel) (by decide +kernel)
theorem jq_210 : (Jvm.Cond.fieldLink "Branchwork$Merger" (32 : Nat) "Branchwork$Merger" "toTheirs" "LBranchwork$Renames;") ∈ jw_T := jw_mem 210 (by decide +kernel) (by decide +kernel)
theorem jq_211 : (Jvm.Cond.fieldLink "Branchwork$Merger" (38 : Nat) "Branchwork$Merger" "blender" "LBranchwork$Blender;") ∈ jw_T := jw_mem 211 (by decide +kernel) (by decide +kernel)
theorem jq_212 : (Jvm.Cond.fieldLink "Branchwork$Merger" (45 : Nat) "Branchwork$Merger" "noLines" "LBranchwork$Content;") ∈ jw_T := jw_mem 212 (by decide +kernel) (by decide +kernel)
theorem jq_213 : (Jvm.Cond.fieldLink "Branchwork$Merger" (49 : Nat) "Branchwork$Merger" "newFromOurs" "[Z") ∈ jw_T := jw_mem 213 (by decide +kernel) (by decide +kernel)
theorem jq_229 : (Jvm.Cond.arrayClass Jvm.ClassFile.FieldType.boolean) ∈ jw_T := jw_mem 229 (by decide +kernel) (by decide +kernel)
theorem jq_230 : (Jvm.Cond.classLink "Branchwork" (30 : Nat) "Branchwork$Conflicts") ∈ jw_T := jw_mem 230 (by decide +kernel) (by decide +kernel)
theorem jq_232 : (Jvm.Cond.classLink "Branchwork" (37 : Nat) "Branchwork$Renames") ∈ jw_T := jw_mem 232 (by decide +kernel) (by decide +kernel)
theorem jq_234 : (Jvm.Cond.classLink "Branchwork" (44 : Nat) "Branchwork$Match") ∈ jw_T := jw_mem 234 (by decide +kernel) (by decide +kernel)
theorem jq_236 : (Jvm.Cond.methodLink "Branchwork" (65 : Nat) ({ cls := "java/util/Arrays", name := "fill", desc := "([II)V" } : Jvm.MethodName)) ∈ jw_T := jw_mem 236 (by decide +kernel) (by decide +kernel)
theorem jq_237 : (Jvm.Cond.static ({ cls := "java/util/Arrays", name := "fill", desc := "([II)V" } : Jvm.MethodName)) ∈ jw_T := jw_mem 237 (by decide +kernel) (by decide +kernel)
theorem jq_238 : (Jvm.Cond.code ({ cls := "java/util/Arrays", name := "fill", desc := "([II)V" } : Jvm.MethodName) prog_25_method_103_code (4 : Nat) (Option.none : Option Jvm.ClassFile.FieldType)) ∈ jw_T := jw_mem 238 (by decide +kernel) (by decide +kernel)
theorem jq_239 : (Jvm.Cond.fieldLink "Branchwork" (12 : Nat) "Branchwork" "working" "LBranchwork$Tree;") ∈ jw_T := jw_mem 239 (by decide +kernel) (by decide +kernel)
theorem jq_240 : (Jvm.Cond.fieldLink "Branchwork" (19 : Nat) "Branchwork" "history" "LBranchwork$History;") ∈ jw_T := jw_mem 240 (by decide +kernel) (by decide +kernel)
theorem jq_241 : (Jvm.Cond.fieldLink "Branchwork" (26 : Nat) "Branchwork" "merger" "LBranchwork$Merger;") ∈ jw_T := jw_mem 241 (by decide +kernel) (by decide +kernel)
theorem jq_242 : (Jvm.Cond.fieldLink "Branchwork" (33 : Nat) "Branchwork" "conflicts" "LBranchwork$Conflicts;") ∈ jw_T := jw_mem 242 (by decide +kernel) (by decide +kernel)
theorem jq_243 : (Jvm.Cond.fieldLink "Branchwork" (40 : Nat) "Branchwork" "renames" "LBranchwork$Renames;") ∈ jw_T := jw_mem 243 (by decide +kernel) (by decide +kernel)
theorem jq_244 : (Jvm.Cond.fieldLink "Branchwork" (47 : Nat) "Branchwork" "match" "LBranchwork$Match;") ∈ jw_T := jw_mem 244 (by decide +kernel) (by decide +kernel)
theorem jq_245 : (Jvm.Cond.fieldLink "Branchwork" (51 : Nat) "Branchwork" "tips" "[I") ∈ jw_T := jw_mem 245 (by decide +kernel) (by decide +kernel)
theorem jq_246 : (Jvm.Cond.fieldLink "Branchwork" (55 : Nat) "Branchwork" "branches" "I") ∈ jw_T := jw_mem 246 (by decide +kernel) (by decide +kernel)
theorem jq_247 : (Jvm.Cond.fieldLink "Branchwork" (59 : Nat) "Branchwork" "current" "I") ∈ jw_T := jw_mem 247 (by decide +kernel) (by decide +kernel)
theorem jq_248 : (Jvm.Cond.fieldLink "Branchwork" (62 : Nat) "Branchwork" "merged" "I") ∈ jw_T := jw_mem 248 (by decide +kernel) (by decide +kernel)
theorem jq_270 : (Jvm.Cond.methodLink "BranchworkLaw" (30 : Nat) ({ cls := "Branchwork", name := "put", desc := "(III)I" } : Jvm.MethodName)) ∈ jw_T := jw_mem 270 (by decide +kernel) (by decide +kernel)
theorem jq_271 : (Jvm.Cond.instanceMethod ({ cls := "Branchwork", name := "put", desc := "(III)I" } : Jvm.MethodName)) ∈ jw_T := jw_mem 271 (by decide +kernel) (by decide +kernel)
theorem jq_272 : (Jvm.Cond.selects "Branchwork" ({ cls := "Branchwork", name := "put", desc := "(III)I" } : Jvm.MethodName) ({ cls := "Branchwork", name := "put", desc := "(III)I" } : Jvm.MethodName)) ∈ jw_T := jw_mem 272 (by decide +kernel) (by decide +kernel)
theorem jq_273 : (Jvm.Cond.code ({ cls := "Branchwork", name := "put", desc := "(III)I" } : Jvm.MethodName) prog_1_method_2_code (5 : Nat) (Option.some Jvm.ClassFile.FieldType.int)) ∈ jw_T := jw_mem 273 (by decide +kernel) (by decide +kernel)
theorem jq_274 : (Jvm.Cond.methodLink "Branchwork" (71 : Nat) ({ cls := "Branchwork", name := "requirePath", desc := "(I)V" } : Jvm.MethodName)) ∈ jw_T := jw_mem 274 (by decide +kernel) (by decide +kernel)
theorem jq_275 : (Jvm.Cond.static ({ cls := "Branchwork", name := "requirePath", desc := "(I)V" } : Jvm.MethodName)) ∈ jw_T := jw_mem 275 (by decide +kernel) (by decide +kernel)
theorem jq_276 : (Jvm.Cond.code ({ cls := "Branchwork", name := "requirePath", desc := "(I)V" } : Jvm.MethodName) prog_1_method_39_code (1 : Nat) (Option.none : Option Jvm.ClassFile.FieldType)) ∈ jw_T := jw_mem 276 (by decide +kernel) (by decide +kernel)
theorem jq_277 : (Jvm.Cond.classLink "Branchwork" (85 : Nat) "java/lang/IndexOutOfBoundsException") ∈ jw_T := jw_mem 277 (by decide +kernel) (by decide +kernel)
theorem jq_278 : (Jvm.Cond.instantiable "java/lang/IndexOutOfBoundsException" (6 : Nat)) ∈ jw_T := jw_mem 278 (by decide +kernel) (by decide +kernel)
theorem jq_286 : (Jvm.Cond.selects "java/lang/IndexOutOfBoundsException" ({ cls := "java/lang/Throwable", name := "fillInStackTrace", desc := "(I)Ljava/lang/Throwable;" } : Jvm.MethodName) ({ cls := "java/lang/Throwable", name := "fillInStackTrace", desc := "(I)Ljava/lang/Throwable;" } : Jvm.MethodName)) ∈ jw_T := jw_mem 286 (by decide +kernel) (by decide +kernel)
theorem jq_287 : (Jvm.Cond.selects "java/lang/IndexOutOfBoundsException" ({ cls := "java/lang/Throwable", name := "fillInStackTrace", desc := "()Ljava/lang/Throwable;" } : Jvm.MethodName) ({ cls := "java/lang/Throwable", name := "fillInStackTrace", desc := "()Ljava/lang/Throwable;" } : Jvm.MethodName)) ∈ jw_T := jw_mem 287 (by decide +kernel) (by decide +kernel)
theorem jq_298 : (Jvm.Cond.fieldLink "java/lang/Throwable" (198 : Nat) "java/lang/Throwable" "backtrace" "Ljava/lang/Object;") ∈ jw_T := jw_mem 298 (by decide +kernel) (by decide +kernel)
theorem jq_300 : (Jvm.Cond.instanceMethod ({ cls := "java/lang/Throwable", name := "<init>", desc := "()V" } : Jvm.MethodName)) ∈ jw_T := jw_mem 300 (by decide +kernel) (by decide +kernel)
theorem jq_301 : (Jvm.Cond.code ({ cls := "java/lang/Throwable", name := "<init>", desc := "()V" } : Jvm.MethodName) prog_24_method_1_code (1 : Nat) (Option.none : Option Jvm.ClassFile.FieldType)) ∈ jw_T := jw_mem 301 (by decide +kernel) (by decide +kernel)
theorem jq_302 : (Jvm.Cond.methodLink "java/lang/Throwable" (1 : Nat) ({ cls := "java/lang/Object", name := "<init>", desc := "()V" } : Jvm.MethodName)) ∈ jw_T := jw_mem 302 (by decide +kernel) (by decide +kernel)
theorem jq_303 : (Jvm.Cond.fieldLink "java/lang/Throwable" (13 : Nat) "java/lang/Throwable" "UNASSIGNED_STACK" "[Ljava/lang/StackTraceElement;") ∈ jw_T := jw_mem 303 (by decide +kernel) (by decide +kernel)
theorem jq_305 : (Jvm.Cond.fieldLink "java/lang/Throwable" (20 : Nat) "java/lang/Throwable" "SUPPRESSED_SENTINEL" "Ljava/util/List;") ∈ jw_T := jw_mem 305 (by decide +kernel) (by decide +kernel)
theorem jq_307 : (Jvm.Cond.methodLink "java/lang/Throwable" (27 : Nat) ({ cls := "java/lang/Throwable", name := "fillInStackTrace", desc := "()Ljava/lang/Throwable;" } : Jvm.MethodName)) ∈ jw_T := jw_mem 307 (by decide +kernel) (by decide +kernel)
theorem jq_308 : (Jvm.Cond.instanceMethod ({ cls := "java/lang/Throwable", name := "fillInStackTrace", desc := "()Ljava/lang/Throwable;" } : Jvm.MethodName)) ∈ jw_T := jw_mem 308 (by decide +kernel) (by decide +kernel)
theorem jq_310 : (Jvm.Cond.selects "java/lang/IllegalArgumentException" ({ cls := "java/lang/Throwable", name := "fillInStackTrace", desc := "()Ljava/lang/Throwable;" } : Jvm.MethodName) ({ cls := "java/lang/Throwable", name := "fillInStackTrace", desc := "()Ljava/lang/Throwable;" } : Jvm.MethodName)) ∈ jw_T := jw_mem 310 (by decide +kernel) (by decide +kernel)
theorem jq_311 : (Jvm.Cond.selects "java/lang/IllegalStateException" ({ cls := "java/lang/Throwable", name := "fillInStackTrace", desc := "()Ljava/lang/Throwable;" } : Jvm.MethodName) ({ cls := "java/lang/Throwable", name := "fillInStackTrace", desc := "()Ljava/lang/Throwable;" } : Jvm.MethodName)) ∈ jw_T := jw_mem 311 (by decide +kernel) (by decide +kernel)
theorem jq_313 : (Jvm.Cond.methodLink "java/lang/Throwable" (202 : Nat) ({ cls := "java/lang/Throwable", name := "fillInStackTrace", desc := "(I)Ljava/lang/Throwable;" } : Jvm.MethodName)) ∈ jw_T := jw_mem 313 (by decide +kernel) (by decide +kernel)
theorem jq_315 : (Jvm.Cond.instanceMethod ({ cls := "java/lang/Throwable", name := "fillInStackTrace", desc := "(I)Ljava/lang/Throwable;" } : Jvm.MethodName)) ∈ jw_T := jw_mem 315 (by decide +kernel) (by decide +kernel)
theorem jq_316 : (Jvm.Cond.instantiable "java/lang/Throwable" (6 : Nat)) ∈ jw_T := jw_mem 316 (by decide +kernel) (by decide +kernel)
theorem jq_319 : (Jvm.Cond.methodLink "Branchwork" (89 : Nat) ({ cls := "java/lang/IndexOutOfBoundsException", name := "<init>", desc := "(Ljava/lang/String;)V" } : Jvm.MethodName)) ∈ jw_T := jw_mem 319 (by decide +kernel) (by decide +kernel)
theorem jq_320 : (Jvm.Cond.instanceMethod ({ cls := "java/lang/IndexOutOfBoundsException", name := "<init>", desc := "(Ljava/lang/String;)V" } : Jvm.MethodName)) ∈ jw_T := jw_mem 320 (by decide +kernel) (by decide +kernel)
theorem jq_321 : (Jvm.Cond.code ({ cls := "java/lang/IndexOutOfBoundsException", name := "<init>", desc := "(Ljava/lang/String;)V" } : Jvm.MethodName) prog_19_method_2_code (2 : Nat) (Option.none : Option Jvm.ClassFile.FieldType)) ∈ jw_T := jw_mem 321 (by decide +kernel) (by decide +kernel)
theorem jq_322 : (Jvm.Cond.methodLink "java/lang/IndexOutOfBoundsException" (7 : Nat) ({ cls := "java/lang/RuntimeException", name := "<init>", desc := "(Ljava/lang/String;)V" } : Jvm.MethodName)) ∈ jw_T := jw_mem 322 (by decide +kernel) (by decide +kernel)
theorem jq_323 : (Jvm.Cond.instanceMethod ({ cls := "java/lang/RuntimeException", name := "<init>", desc := "(Ljava/lang/String;)V" } : Jvm.MethodName)) ∈ jw_T := jw_mem 323 (by decide +kernel) (by decide +kernel)
theorem jq_324 : (Jvm.Cond.code ({ cls := "java/lang/RuntimeException", name := "<init>", desc := "(Ljava/lang/String;)V" } : Jvm.MethodName) prog_22_method_2_code (2 : Nat) (Option.none : Option Jvm.ClassFile.FieldType)) ∈ jw_T := jw_mem 324 (by decide +kernel) (by decide +kernel)
theorem jq_325 : (Jvm.Cond.methodLink "java/lang/RuntimeException" (7 : Nat) ({ cls := "java/lang/Exception", name := "<init>", desc := "(Ljava/lang/String;)V" } : Jvm.MethodName)) ∈ jw_T := jw_mem 325 (by decide +kernel) (by decide +kernel)
theorem jq_326 : (Jvm.Cond.instanceMethod ({ cls := "java/lang/Exception", name := "<init>", desc := "(Ljava/lang/String;)V" } : Jvm.MethodName)) ∈ jw_T := jw_mem 326 (by decide +kernel) (by decide +kernel)
theorem jq_327 : (Jvm.Cond.code ({ cls := "java/lang/Exception", name := "<init>", desc := "(Ljava/lang/String;)V" } : Jvm.MethodName) prog_16_method_2_code (2 : Nat) (Option.none : Option Jvm.ClassFile.FieldType)) ∈ jw_T := jw_mem 327 (by decide +kernel) (by decide +kernel)
theorem jq_328 : (Jvm.Cond.methodLink "java/lang/Exception" (7 : Nat) ({ cls := "java/lang/Throwable", name := "<init>", desc := "(Ljava/lang/String;)V" } : Jvm.MethodName)) ∈ jw_T := jw_mem 328 (by decide +kernel) (by decide +kernel)
theorem jq_329 : (Jvm.Cond.instanceMethod ({ cls := "java/lang/Throwable", name := "<init>", desc := "(Ljava/lang/String;)V" } : Jvm.MethodName)) ∈ jw_T := jw_mem 329 (by decide +kernel) (by decide +kernel)
theorem jq_330 : (Jvm.Cond.code ({ cls := "java/lang/Throwable", name := "<init>", desc := "(Ljava/lang/String;)V" } : Jvm.MethodName) prog_24_method_2_code (2 : Nat) (Option.none : Option Jvm.ClassFile.FieldType)) ∈ jw_T := jw_mem 330 (by decide +kernel) (by decide +kernel)
theorem jq_331 : (Jvm.Cond.fieldLink "java/lang/Throwable" (198 : Nat) "java/lang/Throwable" "backtrace" "Ljava/lang/Object;") ∈ jw_T := jw_mem 331 (by decide +kernel) (by decide +kernel)
theorem jq_332 : (Jvm.Cond.fieldLink "java/lang/Throwable" (31 : Nat) "java/lang/Throwable" "detailMessage" "Ljava/lang/String;") ∈ jw_T := jw_mem 332 (by decide +kernel) (by decide +kernel)
theorem jq_333 : (Jvm.Cond.fieldLink "java/lang/Throwable" (7 : Nat) "java/lang/Throwable" "cause" "Ljava/lang/Throwable;") ∈ jw_T := jw_mem 333 (by decide +kernel) (by decide +kernel)
theorem jq_334 : (Jvm.Cond.fieldLink "java/lang/Throwable" (17 : Nat) "java/lang/Throwable" "stackTrace" "[Ljava/lang/StackTraceElement;") ∈ jw_T := jw_mem 334 (by decide +kernel) (by decide +kernel)
theorem jq_335 : (Jvm.Cond.fieldLink "java/lang/Throwable" (24 : Nat) "java/lang/Throwable" "suppressedExceptions" "Ljava/util/List;") ∈ jw_T := jw_mem 335 (by decide +kernel) (by decide +kernel)
theorem jq_344 : (Jvm.Cond.arrayClass Jvm.ClassFile.FieldType.byte) ∈ jw_T := jw_mem 344 (by decide +kernel) (by decide +kernel)
theorem jq_345 : (Jvm.Cond.methodLink "Branchwork" (75 : Nat) ({ cls := "Branchwork$Tree", name := "fileAt", desc := "(I)LBranchwork$Content;" } : Jvm.MethodName)) ∈ jw_T := jw_mem 345 (by decide +kernel) (by decide +kernel)
theorem jq_346 : (Jvm.Cond.instanceMethod ({ cls := "Branchwork$Tree", name := "fileAt", desc := "(I)LBranchwork$Content;" } : Jvm.MethodName)) ∈ jw_T := jw_mem 346 (by decide +kernel) (by decide +kernel)
theorem jq_347 : (Jvm.Cond.selects "Branchwork$Tree" ({ cls := "Branchwork$Tree", name := "fileAt", desc := "(I)LBranchwork$Content;" } : Jvm.MethodName) ({ cls := "Branchwork$Tree", name := "fileAt", desc := "(I)LBranchwork$Content;" } : Jvm.MethodName)) ∈ jw_T := jw_mem 347 (by decide +kernel) (by decide +kernel)
theorem jq_348 : (Jvm.Cond.code ({ cls := "Branchwork$Tree", name := "fileAt", desc := "(I)LBranchwork$Content;" } : Jvm.MethodName) prog_9_method_2_code (2 : Nat) (Option.some (Jvm.ClassFile.FieldType.object "Branchwork$Content"))) ∈ jw_T := jw_mem 348 (by decide +kernel) (by decide +kernel)
theorem jq_349 : (Jvm.Cond.methodLink "Branchwork" (79 : Nat) ({ cls := "Branchwork$Content", name := "length", desc := "()I" } : Jvm.MethodName)) ∈ jw_T := jw_mem 349 (by decide +kernel) (by decide +kernel)
theorem jq_350 : (Jvm.Cond.instanceMethod ({ cls := "Branchwork$Content", name := "length", desc := "()I" } : Jvm.MethodName)) ∈ jw_T := jw_mem 350 (by decide +kernel) (by decide +kernel)
theorem jq_351 : (Jvm.Cond.selects "Branchwork$Content" ({ cls := "Branchwork$Content", name := "length", desc := "()I" } : Jvm.MethodName) ({ cls := "Branchwork$Content", name := "length", desc := "()I" } : Jvm.MethodName)) ∈ jw_T := jw_mem 351 (by decide +kernel) (by decide +kernel)
theorem jq_352 : (Jvm.Cond.code ({ cls := "Branchwork$Content", name := "length", desc := "()I" } : Jvm.MethodName) prog_4_method_3_code (1 : Nat) (Option.some Jvm.ClassFile.FieldType.int)) ∈ jw_T := jw_mem 352 (by decide +kernel) (by decide +kernel)
theorem jq_354 : (Jvm.Cond.classLink "Branchwork" (92 : Nat) "java/lang/IllegalArgumentException") ∈ jw_T := jw_mem 354 (by decide +kernel) (by decide +kernel)
theorem jq_355 : (Jvm.Cond.instantiable "java/lang/IllegalArgumentException" (6 : Nat)) ∈ jw_T := jw_mem 355 (by decide +kernel) (by decide +kernel)
theorem jq_357 : (Jvm.Cond.selects "java/lang/IllegalArgumentException" ({ cls := "java/lang/Throwable", name := "fillInStackTrace", desc := "(I)Ljava/lang/Throwable;" } : Jvm.MethodName) ({ cls := "java/lang/Throwable", name := "fillInStackTrace", desc := "(I)Ljava/lang/Throwable;" } : Jvm.MethodName)) ∈ jw_T := jw_mem 357 (by decide +kernel) (by decide +kernel)
theorem jq_364 : (Jvm.Cond.methodLink "Branchwork" (96 : Nat) ({ cls := "java/lang/IllegalArgumentException", name := "<init>", desc := "(Ljava/lang/String;)V" } : Jvm.MethodName)) ∈ jw_T := jw_mem 364 (by decide +kernel) (by decide +kernel)
theorem jq_365 : (Jvm.Cond.instanceMethod ({ cls := "java/lang/IllegalArgumentException", name := "<init>", desc := "(Ljava/lang/String;)V" } : Jvm.MethodName)) ∈ jw_T := jw_mem 365 (by decide +kernel) (by decide +kernel)
theorem jq_366 : (Jvm.Cond.code ({ cls := "java/lang/IllegalArgumentException", name := "<init>", desc := "(Ljava/lang/String;)V" } : Jvm.MethodName) prog_17_method_2_code (2 : Nat) (Option.none : Option Jvm.ClassFile.FieldType)) ∈ jw_T := jw_mem 366 (by decide +kernel) (by decide +kernel)
theorem jq_367 : (Jvm.Cond.methodLink "java/lang/IllegalArgumentException" (7 : Nat) ({ cls := "java/lang/RuntimeException", name := "<init>", desc := "(Ljava/lang/String;)V" } : Jvm.MethodName)) ∈ jw_T := jw_mem 367 (by decide +kernel) (by decide +kernel)
theorem jq_370 : (Jvm.Cond.methodLink "Branchwork" (97 : Nat) ({ cls := "Branchwork$Content", name := "isFull", desc := "()Z" } : Jvm.MethodName)) ∈ jw_T := jw_mem 370 (by decide +kernel) (by decide +kernel)
theorem jq_371 : (Jvm.Cond.instanceMethod ({ cls := "Branchwork$Content", name := "isFull", desc := "()Z" } : Jvm.MethodName)) ∈ jw_T := jw_mem 371 (by decide +kernel) (by decide +kernel)
theorem jq_372 : (Jvm.Cond.selects "Branchwork$Content" ({ cls := "Branchwork$Content", name := "isFull", desc := "()Z" } : Jvm.MethodName) ({ cls := "Branchwork$Content", name := "isFull", desc := "()Z" } : Jvm.MethodName)) ∈ jw_T := jw_mem 372 (by decide +kernel) (by decide +kernel)
theorem jq_373 : (Jvm.Cond.code ({ cls := "Branchwork$Content", name := "isFull", desc := "()Z" } : Jvm.MethodName) prog_4_method_4_code (1 : Nat) (Option.some Jvm.ClassFile.FieldType.boolean)) ∈ jw_T := jw_mem 373 (by decide +kernel) (by decide +kernel)
theorem jq_374 : (Jvm.Cond.classLink "Branchwork" (101 : Nat) "java/lang/IllegalStateException") ∈ jw_T := jw_mem 374 (by decide +kernel) (by decide +kernel)
theorem jq_375 : (Jvm.Cond.instantiable "java/lang/IllegalStateException" (6 : Nat)) ∈ jw_T := jw_mem 375 (by decide +kernel) (by decide +kernel)
theorem jq_377 : (Jvm.Cond.selects "java/lang/IllegalStateException" ({ cls := "java/lang/Throwable", name := "fillInStackTrace", desc := "(I)Ljava/lang/Throwable;" } : Jvm.MethodName) ({ cls := "java/lang/Throwable", name := "fillInStackTrace", desc := "(I)Ljava/lang/Throwable;" } : Jvm.MethodName)) ∈ jw_T := jw_mem 377 (by decide +kernel) (by decide +kernel)
theorem jq_384 : (Jvm.Cond.methodLink "Branchwork" (105 : Nat) ({ cls := "java/lang/IllegalStateException", name := "<init>", desc := "(Ljava/lang/String;)V" } : Jvm.MethodName)) ∈ jw_T := jw_mem 384 (by decide +kernel) (by decide +kernel)
theorem jq_385 : (Jvm.Cond.instanceMethod ({ cls := "java/lang/IllegalStateException", name := "<init>", desc := "(Ljava/lang/String;)V" } : Jvm.MethodName)) ∈ jw_T := jw_mem 385 (by decide +kernel) (by decide +kernel)
theorem jq_386 : (Jvm.Cond.code ({ cls := "java/lang/IllegalStateException", name := "<init>", desc := "(Ljava/lang/String;)V" } : Jvm.MethodName) prog_18_method_2_code (2 : Nat) (Option.none : Option Jvm.ClassFile.FieldType)) ∈ jw_T := jw_mem 386 (by decide +kernel) (by decide +kernel)
theorem jq_387 : (Jvm.Cond.methodLink "java/lang/IllegalStateException" (7 : Nat) ({ cls := "java/lang/RuntimeException", name := "<init>", desc := "(Ljava/lang/String;)V" } : Jvm.MethodName)) ∈ jw_T := jw_mem 387 (by decide +kernel) (by decide +kernel)
theorem jq_390 : (Jvm.Cond.methodLink "Branchwork" (106 : Nat) ({ cls := "Branchwork$Content", name := "insert", desc := "(II)V" } : Jvm.MethodName)) ∈ jw_T := jw_mem 390 (by decide +kernel) (by decide +kernel)
theorem jq_391 : (Jvm.Cond.instanceMethod ({ cls := "Branchwork$Content", name := "insert", desc := "(II)V" } : Jvm.MethodName)) ∈ jw_T := jw_mem 391 (by decide +kernel) (by decide +kernel)
theorem jq_392 : (Jvm.Cond.selects "Branchwork$Content" ({ cls := "Branchwork$Content", name := "insert", desc := "(II)V" } : Jvm.MethodName) ({ cls := "Branchwork$Content", name := "insert", desc := "(II)V" } : Jvm.MethodName)) ∈ jw_T := jw_mem 392 (by decide +kernel) (by decide +kernel)
theorem jq_393 : (Jvm.Cond.code ({ cls := "Branchwork$Content", name := "insert", desc := "(II)V" } : Jvm.MethodName) prog_4_method_9_code (4 : Nat) (Option.none : Option Jvm.ClassFile.FieldType)) ∈ jw_T := jw_mem 393 (by decide +kernel) (by decide +kernel)
theorem jq_394 : (Jvm.Cond.methodLink "BranchworkLaw" (34 : Nat) ({ cls := "Branchwork", name := "rename", desc := "(II)I" } : Jvm.MethodName)) ∈ jw_T := jw_mem 394 (by decide +kernel) (by decide +kernel)
theorem jq_395 : (Jvm.Cond.instanceMethod ({ cls := "Branchwork", name := "rename", desc := "(II)I" } : Jvm.MethodName)) ∈ jw_T := jw_mem 395 (by decide +kernel) (by decide +kernel)
theorem jq_396 : (Jvm.Cond.selects "Branchwork" ({ cls := "Branchwork", name := "rename", desc := "(II)I" } : Jvm.MethodName) ({ cls := "Branchwork", name := "rename", desc := "(II)I" } : Jvm.MethodName)) ∈ jw_T := jw_mem 396 (by decide +kernel) (by decide +kernel)
theorem jq_397 : (Jvm.Cond.code ({ cls := "Branchwork", name := "rename", desc := "(II)I" } : Jvm.MethodName) prog_1_method_4_code (4 : Nat) (Option.some Jvm.ClassFile.FieldType.int)) ∈ jw_T := jw_mem 397 (by decide +kernel) (by decide +kernel)
theorem jq_398 : (Jvm.Cond.methodLink "Branchwork" (110 : Nat) ({ cls := "Branchwork", name := "requireFile", desc := "(LBranchwork$Tree;I)V" } : Jvm.MethodName)) ∈ jw_T := jw_mem 398 (by decide +kernel) (by decide +kernel)
theorem jq_399 : (Jvm.Cond.static ({ cls := "Branchwork", name := "requireFile", desc := "(LBranchwork$Tree;I)V" } : Jvm.MethodName)) ∈ jw_T := jw_mem 399 (by decide +kernel) (by decide +kernel)
theorem jq_400 : (Jvm.Cond.code ({ cls := "Branchwork", name := "requireFile", desc := "(LBranchwork$Tree;I)V" } : Jvm.MethodName) prog_1_method_40_code (2 : Nat) (Option.none : Option Jvm.ClassFile.FieldType)) ∈ jw_T := jw_mem 400 (by decide +kernel) (by decide +kernel)
theorem jq_401 : (Jvm.Cond.methodLink "Branchwork" (121 : Nat) ({ cls := "Branchwork$Tree", name := "has", desc := "(I)Z" } : Jvm.MethodName)) ∈ jw_T := jw_mem 401 (by decide +kernel) (by decide +kernel)
theorem jq_402 : (Jvm.Cond.instanceMethod ({ cls := "Branchwork$Tree", name := "has", desc := "(I)Z" } : Jvm.MethodName)) ∈ jw_T := jw_mem 402 (by decide +kernel) (by decide +kernel)
theorem jq_403 : (Jvm.Cond.selects "Branchwork$Tree" ({ cls := "Branchwork$Tree", name := "has", desc := "(I)Z" } : Jvm.MethodName) ({ cls := "Branchwork$Tree", name := "has", desc := "(I)Z" } : Jvm.MethodName)) ∈ jw_T := jw_mem 403 (by decide +kernel) (by decide +kernel)
theorem jq_404 : (Jvm.Cond.code ({ cls := "Branchwork$Tree", name := "has", desc := "(I)Z" } : Jvm.MethodName) prog_9_method_3_code (2 : Nat) (Option.some Jvm.ClassFile.FieldType.boolean)) ∈ jw_T := jw_mem 404 (by decide +kernel) (by decide +kernel)
theorem jq_405 : (Jvm.Cond.methodLink "Branchwork$Tree" (22 : Nat) ({ cls := "Branchwork$Tree", name := "fileAt", desc := "(I)LBranchwork$Content;" } : Jvm.MethodName)) ∈ jw_T := jw_mem 405 (by decide +kernel) (by decide +kernel)
theorem jq_406 : (Jvm.Cond.methodLink "Branchwork$Tree" (26 : Nat) ({ cls := "Branchwork$Content", name := "exists", desc := "()Z" } : Jvm.MethodName)) ∈ jw_T := jw_mem 406 (by decide +kernel) (by decide +kernel)
theorem jq_407 : (Jvm.Cond.instanceMethod ({ cls := "Branchwork$Content", name := "exists", desc := "()Z" } : Jvm.MethodName)) ∈ jw_T := jw_mem 407 (by decide +kernel) (by decide +kernel)
theorem jq_408 : (Jvm.Cond.selects "Branchwork$Content" ({ cls := "Branchwork$Content", name := "exists", desc := "()Z" } : Jvm.MethodName) ({ cls := "Branchwork$Content", name := "exists", desc := "()Z" } : Jvm.MethodName)) ∈ jw_T := jw_mem 408 (by decide +kernel) (by decide +kernel)
theorem jq_409 : (Jvm.Cond.code ({ cls := "Branchwork$Content", name := "exists", desc := "()Z" } : Jvm.MethodName) prog_4_method_2_code (1 : Nat) (Option.some Jvm.ClassFile.FieldType.boolean)) ∈ jw_T := jw_mem 409 (by decide +kernel) (by decide +kernel)
theorem jq_412 : (Jvm.Cond.methodLink "Branchwork" (127 : Nat) ({ cls := "Branchwork$Content", name := "copyFrom", desc := "(LBranchwork$Content;)V" } : Jvm.MethodName)) ∈ jw_T := jw_mem 412 (by decide +kernel) (by decide +kernel)
theorem jq_413 : (Jvm.Cond.instanceMethod ({ cls := "Branchwork$Content", name := "copyFrom", desc := "(LBranchwork$Content;)V" } : Jvm.MethodName)) ∈ jw_T := jw_mem 413 (by decide +kernel) (by decide +kernel)
theorem jq_414 : (Jvm.Cond.selects "Branchwork$Content" ({ cls := "Branchwork$Content", name := "copyFrom", desc := "(LBranchwork$Content;)V" } : Jvm.MethodName) ({ cls := "Branchwork$Content", name := "copyFrom", desc := "(LBranchwork$Content;)V" } : Jvm.MethodName)) ∈ jw_T := jw_mem 414 (by decide +kernel) (by decide +kernel)
theorem jq_415 : (Jvm.Cond.code ({ cls := "Branchwork$Content", name := "copyFrom", desc := "(LBranchwork$Content;)V" } : Jvm.MethodName) prog_4_method_14_code (3 : Nat) (Option.none : Option Jvm.ClassFile.FieldType)) ∈ jw_T := jw_mem 415 (by decide +kernel) (by decide +kernel)
theorem jq_416 : (Jvm.Cond.methodLink "Branchwork$Content" (27 : Nat) ({ cls := "Branchwork$Content", name := "length", desc := "()I" } : Jvm.MethodName)) ∈ jw_T := jw_mem 416 (by decide +kernel) (by decide +kernel)
theorem jq_417 : (Jvm.Cond.methodLink "Branchwork$Content" (42 : Nat) ({ cls := "java/lang/Math", name := "min", desc := "(II)I" } : Jvm.MethodName)) ∈ jw_T := jw_mem 417 (by decide +kernel) (by decide +kernel)
theorem jq_418 : (Jvm.Cond.static ({ cls := "java/lang/Math", name := "min", desc := "(II)I" } : Jvm.MethodName)) ∈ jw_T := jw_mem 418 (by decide +kernel) (by decide +kernel)
theorem jq_419 : (Jvm.Cond.code ({ cls := "java/lang/Math", name := "min", desc := "(II)I" } : Jvm.MethodName) prog_21_method_69_code (2 : Nat) (Option.some Jvm.ClassFile.FieldType.int)) ∈ jw_T := jw_mem 419 (by decide +kernel) (by decide +kernel)
theorem jq_420 : (Jvm.Cond.methodLink "Branchwork$Content" (48 : Nat) ({ cls := "Branchwork$Content", name := "exists", desc := "()Z" } : Jvm.MethodName)) ∈ jw_T := jw_mem 420 (by decide +kernel) (by decide +kernel)
theorem jq_421 : (Jvm.Cond.methodLink "Branchwork$Content" (31 : Nat) ({ cls := "Branchwork$Content", name := "lineAt", desc := "(I)I" } : Jvm.MethodName)) ∈ jw_T := jw_mem 421 (by decide +kernel) (by decide +kernel)
theorem jq_422 : (Jvm.Cond.instanceMethod ({ cls := "Branchwork$Content", name := "lineAt", desc := "(I)I" } : Jvm.MethodName)) ∈ jw_T := jw_mem 422 (by decide +kernel) (by decide +kernel)
theorem jq_423 : (Jvm.Cond.selects "Branchwork$Content" ({ cls := "Branchwork$Content", name := "lineAt", desc := "(I)I" } : Jvm.MethodName) ({ cls := "Branchwork$Content", name := "lineAt", desc := "(I)I" } : Jvm.MethodName)) ∈ jw_T := jw_mem 423 (by decide +kernel) (by decide +kernel)
theorem jq_424 : (Jvm.Cond.code ({ cls := "Branchwork$Content", name := "lineAt", desc := "(I)I" } : Jvm.MethodName) prog_4_method_6_code (2 : Nat) (Option.some Jvm.ClassFile.FieldType.int)) ∈ jw_T := jw_mem 424 (by decide +kernel) (by decide +kernel)
theorem jq_425 : (Jvm.Cond.methodLink "Branchwork" (131 : Nat) ({ cls := "Branchwork$Content", name := "becomeAbsent", desc := "()V" } : Jvm.MethodName)) ∈ jw_T := jw_mem 425 (by decide +kernel) (by decide +kernel)
theorem jq_426 : (Jvm.Cond.instanceMethod ({ cls := "Branchwork$Content", name := "becomeAbsent", desc := "()V" } : Jvm.MethodName)) ∈ jw_T := jw_mem 426 (by decide +kernel) (by decide +kernel)
theorem jq_427 : (Jvm.Cond.selects "Branchwork$Content" ({ cls := "Branchwork$Content", name := "becomeAbsent", desc := "()V" } : Jvm.MethodName) ({ cls := "Branchwork$Content", name := "becomeAbsent", desc := "()V" } : Jvm.MethodName)) ∈ jw_T := jw_mem 427 (by decide +kernel) (by decide +kernel)
theorem jq_428 : (Jvm.Cond.code ({ cls := "Branchwork$Content", name := "becomeAbsent", desc := "()V" } : Jvm.MethodName) prog_4_method_7_code (1 : Nat) (Option.none : Option Jvm.ClassFile.FieldType)) ∈ jw_T := jw_mem 428 (by decide +kernel) (by decide +kernel)
theorem jq_429 : (Jvm.Cond.methodLink "BranchworkLaw" (45 : Nat) ({ cls := "Branchwork", name := "commit", desc := "(I)I" } : Jvm.MethodName)) ∈ jw_T := jw_mem 429 (by decide +kernel) (by decide +kernel)
theorem jq_430 : (Jvm.Cond.instanceMethod ({ cls := "Branchwork", name := "commit", desc := "(I)I" } : Jvm.MethodName)) ∈ jw_T := jw_mem 430 (by decide +kernel) (by decide +kernel)
theorem jq_431 : (Jvm.Cond.selects "Branchwork" ({ cls := "Branchwork", name := "commit", desc := "(I)I" } : Jvm.MethodName) ({ cls := "Branchwork", name := "commit", desc := "(I)I" } : Jvm.MethodName)) ∈ jw_T := jw_mem 431 (by decide +kernel) (by decide +kernel)
theorem jq_432 : (Jvm.Cond.code ({ cls := "Branchwork", name := "commit", desc := "(I)I" } : Jvm.MethodName) prog_1_method_7_code (3 : Nat) (Option.some Jvm.ClassFile.FieldType.int)) ∈ jw_T := jw_mem 432 (by decide +kernel) (by decide +kernel)
theorem jq_434 : (Jvm.Cond.methodLink "Branchwork" (150 : Nat) ({ cls := "Branchwork$History", name := "isFull", desc := "()Z" } : Jvm.MethodName)) ∈ jw_T := jw_mem 434 (by decide +kernel) (by decide +kernel)
theorem jq_435 : (Jvm.Cond.instanceMethod ({ cls := "Branchwork$History", name := "isFull", desc := "()Z" } : Jvm.MethodName)) ∈ jw_T := jw_mem 435 (by decide +kernel) (by decide +kernel)
theorem jq_436 : (Jvm.Cond.selects "Branchwork$History" ({ cls := "Branchwork$History", name := "isFull", desc := "()Z" } : Jvm.MethodName) ({ cls := "Branchwork$History", name := "isFull", desc := "()Z" } : Jvm.MethodName)) ∈ jw_T := jw_mem 436 (by decide +kernel) (by decide +kernel)
theorem jq_437 : (Jvm.Cond.code ({ cls := "Branchwork$History", name := "isFull", desc := "()Z" } : Jvm.MethodName) prog_5_method_4_code (1 : Nat) (Option.some Jvm.ClassFile.FieldType.boolean)) ∈ jw_T := jw_mem 437 (by decide +kernel) (by decide +kernel)
theorem jq_439 : (Jvm.Cond.methodLink "Branchwork" (153 : Nat) ({ cls := "Branchwork$Conflicts", name := "howMany", desc := "()I" } : Jvm.MethodName)) ∈ jw_T := jw_mem 439 (by decide +kernel) (by decide +kernel)
theorem jq_440 : (Jvm.Cond.instanceMethod ({ cls := "Branchwork$Conflicts", name := "howMany", desc := "()I" } : Jvm.MethodName)) ∈ jw_T := jw_mem 440 (by decide +kernel) (by decide +kernel)
theorem jq_441 : (Jvm.Cond.selects "Branchwork$Conflicts" ({ cls := "Branchwork$Conflicts", name := "howMany", desc := "()I" } : Jvm.MethodName) ({ cls := "Branchwork$Conflicts", name := "howMany", desc := "()I" } : Jvm.MethodName)) ∈ jw_T := jw_mem 441 (by decide +kernel) (by decide +kernel)
theorem jq_442 : (Jvm.Cond.code ({ cls := "Branchwork$Conflicts", name := "howMany", desc := "()I" } : Jvm.MethodName) prog_3_method_2_code (1 : Nat) (Option.some Jvm.ClassFile.FieldType.int)) ∈ jw_T := jw_mem 442 (by decide +kernel) (by decide +kernel)
theorem jq_444 : (Jvm.Cond.methodLink "Branchwork" (158 : Nat) ({ cls := "Branchwork", name := "isClean", desc := "()Z" } : Jvm.MethodName)) ∈ jw_T := jw_mem 444 (by decide +kernel) (by decide +kernel)
theorem jq_446 : (Jvm.Cond.instanceMethod ({ cls := "Branchwork", name := "isClean", desc := "()Z" } : Jvm.MethodName)) ∈ jw_T := jw_mem 446 (by decide +kernel) (by decide +kernel)
theorem jq_447 : (Jvm.Cond.code ({ cls := "Branchwork", name := "isClean", desc := "()Z" } : Jvm.MethodName) prog_1_method_34_code (1 : Nat) (Option.some Jvm.ClassFile.FieldType.boolean)) ∈ jw_T := jw_mem 447 (by decide +kernel) (by decide +kernel)
theorem jq_448 : (Jvm.Cond.methodLink "Branchwork" (137 : Nat) ({ cls := "Branchwork", name := "head", desc := "()I" } : Jvm.MethodName)) ∈ jw_T := jw_mem 448 (by decide +kernel) (by decide +kernel)
theorem jq_450 : (Jvm.Cond.instanceMethod ({ cls := "Branchwork", name := "head", desc := "()I" } : Jvm.MethodName)) ∈ jw_T := jw_mem 450 (by decide +kernel) (by decide +kernel)
theorem jq_451 : (Jvm.Cond.code ({ cls := "Branchwork", name := "head", desc := "()I" } : Jvm.MethodName) prog_1_method_33_code (1 : Nat) (Option.some Jvm.ClassFile.FieldType.int)) ∈ jw_T := jw_mem 451 (by decide +kernel) (by decide +kernel)
theorem jq_452 : (Jvm.Cond.methodLink "Branchwork" (140 : Nat) ({ cls := "Branchwork$History", name := "treeOf", desc := "(I)LBranchwork$Tree;" } : Jvm.MethodName)) ∈ jw_T := jw_mem 452 (by decide +kernel) (by decide +kernel)
theorem jq_453 : (Jvm.Cond.instanceMethod ({ cls := "Branchwork$History", name := "treeOf", desc := "(I)LBranchwork$Tree;" } : Jvm.MethodName)) ∈ jw_T := jw_mem 453 (by decide +kernel) (by decide +kernel)
theorem jq_454 : (Jvm.Cond.selects "Branchwork$History" ({ cls := "Branchwork$History", name := "treeOf", desc := "(I)LBranchwork$Tree;" } : Jvm.MethodName) ({ cls := "Branchwork$History", name := "treeOf", desc := "(I)LBranchwork$Tree;" } : Jvm.MethodName)) ∈ jw_T := jw_mem 454 (by decide +kernel) (by decide +kernel)
theorem jq_455 : (Jvm.Cond.code ({ cls := "Branchwork$History", name := "treeOf", desc := "(I)LBranchwork$Tree;" } : Jvm.MethodName) prog_5_method_8_code (2 : Nat) (Option.some (Jvm.ClassFile.FieldType.object "Branchwork$Tree"))) ∈ jw_T := jw_mem 455 (by decide +kernel) (by decide +kernel)
theorem jq_456 : (Jvm.Cond.methodLink "Branchwork" (334 : Nat) ({ cls := "Branchwork$Tree", name := "sameAs", desc := "(LBranchwork$Tree;)Z" } : Jvm.MethodName)) ∈ jw_T := jw_mem 456 (by decide +kernel) (by decide +kernel)
theorem jq_457 : (Jvm.Cond.instanceMethod ({ cls := "Branchwork$Tree", name := "sameAs", desc := "(LBranchwork$Tree;)Z" } : Jvm.MethodName)) ∈ jw_T := jw_mem 457 (by decide +kernel) (by decide +kernel)
theorem jq_458 : (Jvm.Cond.selects "Branchwork$Tree" ({ cls := "Branchwork$Tree", name := "sameAs", desc := "(LBranchwork$Tree;)Z" } : Jvm.MethodName) ({ cls := "Branchwork$Tree", name := "sameAs", desc := "(LBranchwork$Tree;)Z" } : Jvm.MethodName)) ∈ jw_T := jw_mem 458 (by decide +kernel) (by decide +kernel)
theorem jq_459 : (Jvm.Cond.code ({ cls := "Branchwork$Tree", name := "sameAs", desc := "(LBranchwork$Tree;)Z" } : Jvm.MethodName) prog_9_method_7_code (3 : Nat) (Option.some Jvm.ClassFile.FieldType.boolean)) ∈ jw_T := jw_mem 459 (by decide +kernel) (by decide +kernel)
theorem jq_460 : (Jvm.Cond.methodLink "Branchwork$Tree" (41 : Nat) ({ cls := "Branchwork$Content", name := "sameAs", desc := "(LBranchwork$Content;)Z" } : Jvm.MethodName)) ∈ jw_T := jw_mem 460 (by decide +kernel) (by decide +kernel)
theorem jq_461 : (Jvm.Cond.instanceMethod ({ cls := "Branchwork$Content", name := "sameAs", desc := "(LBranchwork$Content;)Z" } : Jvm.MethodName)) ∈ jw_T := jw_mem 461 (by decide +kernel) (by decide +kernel)
theorem jq_462 : (Jvm.Cond.selects "Branchwork$Content" ({ cls := "Branchwork$Content", name := "sameAs", desc := "(LBranchwork$Content;)Z" } : Jvm.MethodName) ({ cls := "Branchwork$Content", name := "sameAs", desc := "(LBranchwork$Content;)Z" } : Jvm.MethodName)) ∈ jw_T := jw_mem 462 (by decide +kernel) (by decide +kernel)
theorem jq_463 : (Jvm.Cond.code ({ cls := "Branchwork$Content", name := "sameAs", desc := "(LBranchwork$Content;)Z" } : Jvm.MethodName) prog_4_method_15_code (3 : Nat) (Option.some Jvm.ClassFile.FieldType.boolean)) ∈ jw_T := jw_mem 463 (by decide +kernel) (by decide +kernel)
theorem jq_465 : (Jvm.Cond.methodLink "Branchwork" (163 : Nat) ({ cls := "Branchwork$History", name := "add", desc := "(LBranchwork$Tree;III)I" } : Jvm.MethodName)) ∈ jw_T := jw_mem 465 (by decide +kernel) (by decide +kernel)
theorem jq_466 : (Jvm.Cond.instanceMethod ({ cls := "Branchwork$History", name := "add", desc := "(LBranchwork$Tree;III)I" } : Jvm.MethodName)) ∈ jw_T := jw_mem 466 (by decide +kernel) (by decide +kernel)
theorem jq_467 : (Jvm.Cond.selects "Branchwork$History" ({ cls := "Branchwork$History", name := "add", desc := "(LBranchwork$Tree;III)I" } : Jvm.MethodName) ({ cls := "Branchwork$History", name := "add", desc := "(LBranchwork$Tree;III)I" } : Jvm.MethodName)) ∈ jw_T := jw_mem 467 (by decide +kernel) (by decide +kernel)
theorem jq_468 : (Jvm.Cond.code ({ cls := "Branchwork$History", name := "add", desc := "(LBranchwork$Tree;III)I" } : Jvm.MethodName) prog_5_method_12_code (7 : Nat) (Option.some Jvm.ClassFile.FieldType.int)) ∈ jw_T := jw_mem 468 (by decide +kernel) (by decide +kernel)
theorem jq_469 : (Jvm.Cond.methodLink "Branchwork$History" (56 : Nat) ({ cls := "Branchwork$Tree", name := "copyFrom", desc := "(LBranchwork$Tree;)V" } : Jvm.MethodName)) ∈ jw_T := jw_mem 469 (by decide +kernel) (by decide +kernel)
theorem jq_470 : (Jvm.Cond.instanceMethod ({ cls := "Branchwork$Tree", name := "copyFrom", desc := "(LBranchwork$Tree;)V" } : Jvm.MethodName)) ∈ jw_T := jw_mem 470 (by decide +kernel) (by decide +kernel)
theorem jq_471 : (Jvm.Cond.selects "Branchwork$Tree" ({ cls := "Branchwork$Tree", name := "copyFrom", desc := "(LBranchwork$Tree;)V" } : Jvm.MethodName) ({ cls := "Branchwork$Tree", name := "copyFrom", desc := "(LBranchwork$Tree;)V" } : Jvm.MethodName)) ∈ jw_T := jw_mem 471 (by decide +kernel) (by decide +kernel)
theorem jq_472 : (Jvm.Cond.code ({ cls := "Branchwork$Tree", name := "copyFrom", desc := "(LBranchwork$Tree;)V" } : Jvm.MethodName) prog_9_method_6_code (3 : Nat) (Option.none : Option Jvm.ClassFile.FieldType)) ∈ jw_T := jw_mem 472 (by decide +kernel) (by decide +kernel)
theorem jq_473 : (Jvm.Cond.methodLink "Branchwork$Tree" (37 : Nat) ({ cls := "Branchwork$Content", name := "copyFrom", desc := "(LBranchwork$Content;)V" } : Jvm.MethodName)) ∈ jw_T := jw_mem 473 (by decide +kernel) (by decide +kernel)
theorem jq_474 : (Jvm.Cond.methodLink "Branchwork$History" (60 : Nat) ({ cls := "Branchwork$History", name := "numberOfTree", desc := "(I)I" } : Jvm.MethodName)) ∈ jw_T := jw_mem 474 (by decide +kernel) (by decide +kernel)
theorem jq_476 : (Jvm.Cond.instanceMethod ({ cls := "Branchwork$History", name := "numberOfTree", desc := "(I)I" } : Jvm.MethodName)) ∈ jw_T := jw_mem 476 (by decide +kernel) (by decide +kernel)
theorem jq_477 : (Jvm.Cond.code ({ cls := "Branchwork$History", name := "numberOfTree", desc := "(I)I" } : Jvm.MethodName) prog_5_method_21_code (3 : Nat) (Option.some Jvm.ClassFile.FieldType.int)) ∈ jw_T := jw_mem 477 (by decide +kernel) (by decide +kernel)
theorem jq_478 : (Jvm.Cond.methodLink "Branchwork$History" (88 : Nat) ({ cls := "Branchwork$History", name := "treeOf", desc := "(I)LBranchwork$Tree;" } : Jvm.MethodName)) ∈ jw_T := jw_mem 478 (by decide +kernel) (by decide +kernel)
theorem jq_479 : (Jvm.Cond.methodLink "Branchwork$History" (108 : Nat) ({ cls := "Branchwork$Tree", name := "sameAs", desc := "(LBranchwork$Tree;)Z" } : Jvm.MethodName)) ∈ jw_T := jw_mem 479 (by decide +kernel) (by decide +kernel)
theorem jq_480 : (Jvm.Cond.methodLink "Branchwork$History" (63 : Nat) ({ cls := "Branchwork$History", name := "numberOfContent", desc := "(II)I" } : Jvm.MethodName)) ∈ jw_T := jw_mem 480 (by decide +kernel) (by decide +kernel)
theorem jq_482 : (Jvm.Cond.instanceMethod ({ cls := "Branchwork$History", name := "numberOfContent", desc := "(II)I" } : Jvm.MethodName)) ∈ jw_T := jw_mem 482 (by decide +kernel) (by decide +kernel)
theorem jq_483 : (Jvm.Cond.code ({ cls := "Branchwork$History", name := "numberOfContent", desc := "(II)I" } : Jvm.MethodName) prog_5_method_22_code (6 : Nat) (Option.some Jvm.ClassFile.FieldType.int)) ∈ jw_T := jw_mem 483 (by decide +kernel) (by decide +kernel)
theorem jq_484 : (Jvm.Cond.methodLink "Branchwork$History" (92 : Nat) ({ cls := "Branchwork$Tree", name := "fileAt", desc := "(I)LBranchwork$Content;" } : Jvm.MethodName)) ∈ jw_T := jw_mem 484 (by decide +kernel) (by decide +kernel)
theorem jq_485 : (Jvm.Cond.methodLink "Branchwork$History" (112 : Nat) ({ cls := "Branchwork$Content", name := "exists", desc := "()Z" } : Jvm.MethodName)) ∈ jw_T := jw_mem 485 (by decide +kernel) (by decide +kernel)
theorem jq_486 : (Jvm.Cond.methodLink "Branchwork$History" (116 : Nat) ({ cls := "Branchwork$Content", name := "sameAs", desc := "(LBranchwork$Content;)Z" } : Jvm.MethodName)) ∈ jw_T := jw_mem 486 (by decide +kernel) (by decide +kernel)
theorem jq_487 : (Jvm.Cond.methodLink "Branchwork$History" (48 : Nat) ({ cls := "Branchwork$History", name := "setOf", desc := "(I)I" } : Jvm.MethodName)) ∈ jw_T := jw_mem 487 (by decide +kernel) (by decide +kernel)
theorem jq_488 : (Jvm.Cond.static ({ cls := "Branchwork$History", name := "setOf", desc := "(I)I" } : Jvm.MethodName)) ∈ jw_T := jw_mem 488 (by decide +kernel) (by decide +kernel)
theorem jq_489 : (Jvm.Cond.code ({ cls := "Branchwork$History", name := "setOf", desc := "(I)I" } : Jvm.MethodName) prog_5_method_2_code (1 : Nat) (Option.some Jvm.ClassFile.FieldType.int)) ∈ jw_T := jw_mem 489 (by decide +kernel) (by decide +kernel)
theorem jq_490 : (Jvm.Cond.methodLink "BranchworkLaw" (54 : Nat) ({ cls := "Branchwork", name := "branch", desc := "()I" } : Jvm.MethodName)) ∈ jw_T := jw_mem 490 (by decide +kernel) (by decide +kernel)
theorem jq_491 : (Jvm.Cond.instanceMethod ({ cls := "Branchwork", name := "branch", desc := "()I" } : Jvm.MethodName)) ∈ jw_T := jw_mem 491 (by decide +kernel) (by decide +kernel)
theorem jq_492 : (Jvm.Cond.selects "Branchwork" ({ cls := "Branchwork", name := "branch", desc := "()I" } : Jvm.MethodName) ({ cls := "Branchwork", name := "branch", desc := "()I" } : Jvm.MethodName)) ∈ jw_T := jw_mem 492 (by decide +kernel) (by decide +kernel)
theorem jq_493 : (Jvm.Cond.code ({ cls := "Branchwork", name := "branch", desc := "()I" } : Jvm.MethodName) prog_1_method_8_code (1 : Nat) (Option.some Jvm.ClassFile.FieldType.int)) ∈ jw_T := jw_mem 493 (by decide +kernel) (by decide +kernel)
theorem jq_496 : (Jvm.Cond.methodLink "BranchworkLaw" (58 : Nat) ({ cls := "Branchwork", name := "change", desc := "(I)I" } : Jvm.MethodName)) ∈ jw_T := jw_mem 496 (by decide +kernel) (by decide +kernel)
theorem jq_497 : (Jvm.Cond.instanceMethod ({ cls := "Branchwork", name := "change", desc := "(I)I" } : Jvm.MethodName)) ∈ jw_T := jw_mem 497 (by decide +kernel) (by decide +kernel)
theorem jq_498 : (Jvm.Cond.selects "Branchwork" ({ cls := "Branchwork", name := "change", desc := "(I)I" } : Jvm.MethodName) ({ cls := "Branchwork", name := "change", desc := "(I)I" } : Jvm.MethodName)) ∈ jw_T := jw_mem 498 (by decide +kernel) (by decide +kernel)
theorem jq_499 : (Jvm.Cond.code ({ cls := "Branchwork", name := "change", desc := "(I)I" } : Jvm.MethodName) prog_1_method_9_code (3 : Nat) (Option.some Jvm.ClassFile.FieldType.int)) ∈ jw_T := jw_mem 499 (by decide +kernel) (by decide +kernel)
theorem jq_500 : (Jvm.Cond.methodLink "Branchwork" (171 : Nat) ({ cls := "Branchwork", name := "requireBranch", desc := "(I)V" } : Jvm.MethodName)) ∈ jw_T := jw_mem 500 (by decide +kernel) (by decide +kernel)
theorem jq_502 : (Jvm.Cond.instanceMethod ({ cls := "Branchwork", name := "requireBranch", desc := "(I)V" } : Jvm.MethodName)) ∈ jw_T := jw_mem 502 (by decide +kernel) (by decide +kernel)
theorem jq_503 : (Jvm.Cond.code ({ cls := "Branchwork", name := "requireBranch", desc := "(I)V" } : Jvm.MethodName) prog_1_method_43_code (2 : Nat) (Option.none : Option Jvm.ClassFile.FieldType)) ∈ jw_T := jw_mem 503 (by decide +kernel) (by decide +kernel)
theorem jq_505 : (Jvm.Cond.methodLink "Branchwork" (174 : Nat) ({ cls := "Branchwork", name := "requireCleanAndUnmerged", desc := "()V" } : Jvm.MethodName)) ∈ jw_T := jw_mem 505 (by decide +kernel) (by decide +kernel)
theorem jq_507 : (Jvm.Cond.instanceMethod ({ cls := "Branchwork", name := "requireCleanAndUnmerged", desc := "()V" } : Jvm.MethodName)) ∈ jw_T := jw_mem 507 (by decide +kernel) (by decide +kernel)
theorem jq_508 : (Jvm.Cond.code ({ cls := "Branchwork", name := "requireCleanAndUnmerged", desc := "()V" } : Jvm.MethodName) prog_1_method_45_code (1 : Nat) (Option.none : Option Jvm.ClassFile.FieldType)) ∈ jw_T := jw_mem 508 (by decide +kernel) (by decide +kernel)
theorem jq_511 : (Jvm.Cond.methodLink "Branchwork" (177 : Nat) ({ cls := "Branchwork$Tree", name := "copyFrom", desc := "(LBranchwork$Tree;)V" } : Jvm.MethodName)) ∈ jw_T := jw_mem 511 (by decide +kernel) (by decide +kernel)
theorem jq_512 : (Jvm.Cond.methodLink "BranchworkLaw" (67 : Nat) ({ cls := "Branchwork", name := "merge", desc := "(I)I" } : Jvm.MethodName)) ∈ jw_T := jw_mem 512 (by decide +kernel) (by decide +kernel)
theorem jq_513 : (Jvm.Cond.instanceMethod ({ cls := "Branchwork", name := "merge", desc := "(I)I" } : Jvm.MethodName)) ∈ jw_T := jw_mem 513 (by decide +kernel) (by decide +kernel)
theorem jq_514 : (Jvm.Cond.selects "Branchwork" ({ cls := "Branchwork", name := "merge", desc := "(I)I" } : Jvm.MethodName) ({ cls := "Branchwork", name := "merge", desc := "(I)I" } : Jvm.MethodName)) ∈ jw_T := jw_mem 514 (by decide +kernel) (by decide +kernel)
theorem jq_515 : (Jvm.Cond.code ({ cls := "Branchwork", name := "merge", desc := "(I)I" } : Jvm.MethodName) prog_1_method_11_code (5 : Nat) (Option.some Jvm.ClassFile.FieldType.int)) ∈ jw_T := jw_mem 515 (by decide +kernel) (by decide +kernel)
theorem jq_516 : (Jvm.Cond.methodLink "Branchwork" (186 : Nat) ({ cls := "Branchwork$History", name := "commonAncestor", desc := "(II)I" } : Jvm.MethodName)) ∈ jw_T := jw_mem 516 (by decide +kernel) (by decide +kernel)
theorem jq_517 : (Jvm.Cond.instanceMethod ({ cls := "Branchwork$History", name := "commonAncestor", desc := "(II)I" } : Jvm.MethodName)) ∈ jw_T := jw_mem 517 (by decide +kernel) (by decide +kernel)
theorem jq_518 : (Jvm.Cond.selects "Branchwork$History" ({ cls := "Branchwork$History", name := "commonAncestor", desc := "(II)I" } : Jvm.MethodName) ({ cls := "Branchwork$History", name := "commonAncestor", desc := "(II)I" } : Jvm.MethodName)) ∈ jw_T := jw_mem 518 (by decide +kernel) (by decide +kernel)
theorem jq_519 : (Jvm.Cond.code ({ cls := "Branchwork$History", name := "commonAncestor", desc := "(II)I" } : Jvm.MethodName) prog_5_method_15_code (5 : Nat) (Option.some Jvm.ClassFile.FieldType.int)) ∈ jw_T := jw_mem 519 (by decide +kernel) (by decide +kernel)
theorem jq_520 : (Jvm.Cond.methodLink "Branchwork$History" (70 : Nat) ({ cls := "Branchwork$History", name := "ancestorsOf", desc := "(I)I" } : Jvm.MethodName)) ∈ jw_T := jw_mem 520 (by decide +kernel) (by decide +kernel)
theorem jq_521 : (Jvm.Cond.instanceMethod ({ cls := "Branchwork$History", name := "ancestorsOf", desc := "(I)I" } : Jvm.MethodName)) ∈ jw_T := jw_mem 521 (by decide +kernel) (by decide +kernel)
theorem jq_522 : (Jvm.Cond.selects "Branchwork$History" ({ cls := "Branchwork$History", name := "ancestorsOf", desc := "(I)I" } : Jvm.MethodName) ({ cls := "Branchwork$History", name := "ancestorsOf", desc := "(I)I" } : Jvm.MethodName)) ∈ jw_T := jw_mem 522 (by decide +kernel) (by decide +kernel)
theorem jq_523 : (Jvm.Cond.code ({ cls := "Branchwork$History", name := "ancestorsOf", desc := "(I)I" } : Jvm.MethodName) prog_5_method_14_code (2 : Nat) (Option.some Jvm.ClassFile.FieldType.int)) ∈ jw_T := jw_mem 523 (by decide +kernel) (by decide +kernel)
theorem jq_524 : (Jvm.Cond.methodLink "Branchwork$History" (67 : Nat) ({ cls := "Branchwork$History", name := "withAncestors", desc := "(I)I" } : Jvm.MethodName)) ∈ jw_T := jw_mem 524 (by decide +kernel) (by decide +kernel)
theorem jq_525 : (Jvm.Cond.instanceMethod ({ cls := "Branchwork$History", name := "withAncestors", desc := "(I)I" } : Jvm.MethodName)) ∈ jw_T := jw_mem 525 (by decide +kernel) (by decide +kernel)
theorem jq_526 : (Jvm.Cond.selects "Branchwork$History" ({ cls := "Branchwork$History", name := "withAncestors", desc := "(I)I" } : Jvm.MethodName) ({ cls := "Branchwork$History", name := "withAncestors", desc := "(I)I" } : Jvm.MethodName)) ∈ jw_T := jw_mem 526 (by decide +kernel) (by decide +kernel)
theorem jq_527 : (Jvm.Cond.code ({ cls := "Branchwork$History", name := "withAncestors", desc := "(I)I" } : Jvm.MethodName) prog_5_method_13_code (4 : Nat) (Option.some Jvm.ClassFile.FieldType.int)) ∈ jw_T := jw_mem 527 (by decide +kernel) (by decide +kernel)
theorem jq_528 : (Jvm.Cond.methodLink "Branchwork$History" (52 : Nat) ({ cls := "Branchwork$History", name := "isIn", desc := "(II)Z" } : Jvm.MethodName)) ∈ jw_T := jw_mem 528 (by decide +kernel) (by decide +kernel)
theorem jq_529 : (Jvm.Cond.static ({ cls := "Branchwork$History", name := "isIn", desc := "(II)Z" } : Jvm.MethodName)) ∈ jw_T := jw_mem 529 (by decide +kernel) (by decide +kernel)
theorem jq_530 : (Jvm.Cond.code ({ cls := "Branchwork$History", name := "isIn", desc := "(II)Z" } : Jvm.MethodName) prog_5_method_3_code (2 : Nat) (Option.some Jvm.ClassFile.FieldType.boolean)) ∈ jw_T := jw_mem 530 (by decide +kernel) (by decide +kernel)
theorem jq_531 : (Jvm.Cond.methodLink "Branchwork" (190 : Nat) ({ cls := "Branchwork$Merger", name := "mergeTrees", desc := "(LBranchwork$Tree;LBranchwork$Tree;LBranchwork$Tree;)V" } : Jvm.MethodName)) ∈ jw_T := jw_mem 531 (by decide +kernel) (by decide +kernel)
theorem jq_532 : (Jvm.Cond.instanceMethod ({ cls := "Branchwork$Merger", name := "mergeTrees", desc := "(LBranchwork$Tree;LBranchwork$Tree;LBranchwork$Tree;)V" } : Jvm.MethodName)) ∈ jw_T := jw_mem 532 (by decide +kernel) (by decide +kernel)
theorem jq_533 : (Jvm.Cond.selects "Branchwork$Merger" ({ cls := "Branchwork$Merger", name := "mergeTrees", desc := "(LBranchwork$Tree;LBranchwork$Tree;LBranchwork$Tree;)V" } : Jvm.MethodName) ({ cls := "Branchwork$Merger", name := "mergeTrees", desc := "(LBranchwork$Tree;LBranchwork$Tree;LBranchwork$Tree;)V" } : Jvm.MethodName)) ∈ jw_T := jw_mem 533 (by decide +kernel) (by decide +kernel)
theorem jq_534 : (Jvm.Cond.code ({ cls := "Branchwork$Merger", name := "mergeTrees", desc := "(LBranchwork$Tree;LBranchwork$Tree;LBranchwork$Tree;)V" } : Jvm.MethodName) prog_7_method_4_code (5 : Nat) (Option.none : Option Jvm.ClassFile.FieldType)) ∈ jw_T := jw_mem 534 (by decide +kernel) (by decide +kernel)
theorem jq_535 : (Jvm.Cond.methodLink "Branchwork$Merger" (53 : Nat) ({ cls := "Branchwork$Tree", name := "clear", desc := "()V" } : Jvm.MethodName)) ∈ jw_T := jw_mem 535 (by decide +kernel) (by decide +kernel)
theorem jq_536 : (Jvm.Cond.instanceMethod ({ cls := "Branchwork$Tree", name := "clear", desc := "()V" } : Jvm.MethodName)) ∈ jw_T := jw_mem 536 (by decide +kernel) (by decide +kernel)
theorem jq_537 : (Jvm.Cond.selects "Branchwork$Tree" ({ cls := "Branchwork$Tree", name := "clear", desc := "()V" } : Jvm.MethodName) ({ cls := "Branchwork$Tree", name := "clear", desc := "()V" } : Jvm.MethodName)) ∈ jw_T := jw_mem 537 (by decide +kernel) (by decide +kernel)
theorem jq_538 : (Jvm.Cond.code ({ cls := "Branchwork$Tree", name := "clear", desc := "()V" } : Jvm.MethodName) prog_9_method_5_code (2 : Nat) (Option.none : Option Jvm.ClassFile.FieldType)) ∈ jw_T := jw_mem 538 (by decide +kernel) (by decide +kernel)
theorem jq_539 : (Jvm.Cond.methodLink "Branchwork$Tree" (34 : Nat) ({ cls := "Branchwork$Content", name := "becomeAbsent", desc := "()V" } : Jvm.MethodName)) ∈ jw_T := jw_mem 539 (by decide +kernel) (by decide +kernel)
theorem jq_540 : (Jvm.Cond.methodLink "Branchwork$Merger" (56 : Nat) ({ cls := "Branchwork$Conflicts", name := "clear", desc := "()V" } : Jvm.MethodName)) ∈ jw_T := jw_mem 540 (by decide +kernel) (by decide +kernel)
theorem jq_541 : (Jvm.Cond.instanceMethod ({ cls := "Branchwork$Conflicts", name := "clear", desc := "()V" } : Jvm.MethodName)) ∈ jw_T := jw_mem 541 (by decide +kernel) (by decide +kernel)
theorem jq_542 : (Jvm.Cond.selects "Branchwork$Conflicts" ({ cls := "Branchwork$Conflicts", name := "clear", desc := "()V" } : Jvm.MethodName) ({ cls := "Branchwork$Conflicts", name := "clear", desc := "()V" } : Jvm.MethodName)) ∈ jw_T := jw_mem 542 (by decide +kernel) (by decide +kernel)
theorem jq_543 : (Jvm.Cond.code ({ cls := "Branchwork$Conflicts", name := "clear", desc := "()V" } : Jvm.MethodName) prog_3_method_8_code (1 : Nat) (Option.none : Option Jvm.ClassFile.FieldType)) ∈ jw_T := jw_mem 543 (by decide +kernel) (by decide +kernel)
theorem jq_544 : (Jvm.Cond.methodLink "Branchwork$Merger" (57 : Nat) ({ cls := "Branchwork$Renames", name := "trace", desc := "(LBranchwork$Tree;LBranchwork$Tree;)V" } : Jvm.MethodName)) ∈ jw_T := jw_mem 544 (by decide +kernel) (by decide +kernel)
theorem jq_545 : (Jvm.Cond.instanceMethod ({ cls := "Branchwork$Renames", name := "trace", desc := "(LBranchwork$Tree;LBranchwork$Tree;)V" } : Jvm.MethodName)) ∈ jw_T := jw_mem 545 (by decide +kernel) (by decide +kernel)
theorem jq_546 : (Jvm.Cond.selects "Branchwork$Renames" ({ cls := "Branchwork$Renames", name := "trace", desc := "(LBranchwork$Tree;LBranchwork$Tree;)V" } : Jvm.MethodName) ({ cls := "Branchwork$Renames", name := "trace", desc := "(LBranchwork$Tree;LBranchwork$Tree;)V" } : Jvm.MethodName)) ∈ jw_T := jw_mem 546 (by decide +kernel) (by decide +kernel)
theorem jq_547 : (Jvm.Cond.code ({ cls := "Branchwork$Renames", name := "trace", desc := "(LBranchwork$Tree;LBranchwork$Tree;)V" } : Jvm.MethodName) prog_8_method_2_code (4 : Nat) (Option.none : Option Jvm.ClassFile.FieldType)) ∈ jw_T := jw_mem 547 (by decide +kernel) (by decide +kernel)
theorem jq_548 : (Jvm.Cond.methodLink "Branchwork$Renames" (29 : Nat) ({ cls := "java/util/Arrays", name := "fill", desc := "([II)V" } : Jvm.MethodName)) ∈ jw_T := jw_mem 548 (by decide +kernel) (by decide +kernel)
theorem jq_549 : (Jvm.Cond.methodLink "Branchwork$Renames" (35 : Nat) ({ cls := "Branchwork$Tree", name := "has", desc := "(I)Z" } : Jvm.MethodName)) ∈ jw_T := jw_mem 549 (by decide +kernel) (by decide +kernel)
theorem jq_550 : (Jvm.Cond.methodLink "Branchwork$Renames" (41 : Nat) ({ cls := "Branchwork$Renames", name := "nearest", desc := "(LBranchwork$Tree;ILBranchwork$Tree;)I" } : Jvm.MethodName)) ∈ jw_T := jw_mem 550 (by decide +kernel) (by decide +kernel)
theorem jq_552 : (Jvm.Cond.instanceMethod ({ cls := "Branchwork$Renames", name := "nearest", desc := "(LBranchwork$Tree;ILBranchwork$Tree;)I" } : Jvm.MethodName)) ∈ jw_T := jw_mem 552 (by decide +kernel) (by decide +kernel)
theorem jq_553 : (Jvm.Cond.code ({ cls := "Branchwork$Renames", name := "nearest", desc := "(LBranchwork$Tree;ILBranchwork$Tree;)I" } : Jvm.MethodName) prog_8_method_6_code (8 : Nat) (Option.some Jvm.ClassFile.FieldType.int)) ∈ jw_T := jw_mem 553 (by decide +kernel) (by decide +kernel)
theorem jq_554 : (Jvm.Cond.methodLink "Branchwork$Renames" (45 : Nat) ({ cls := "Branchwork$Tree", name := "fileAt", desc := "(I)LBranchwork$Content;" } : Jvm.MethodName)) ∈ jw_T := jw_mem 554 (by decide +kernel) (by decide +kernel)
theorem jq_555 : (Jvm.Cond.methodLink "Branchwork$Renames" (49 : Nat) ({ cls := "Branchwork$Match", name := "nearnessOf", desc := "(LBranchwork$Content;LBranchwork$Content;)I" } : Jvm.MethodName)) ∈ jw_T := jw_mem 555 (by decide +kernel) (by decide +kernel)
theorem jq_556 : (Jvm.Cond.instanceMethod ({ cls := "Branchwork$Match", name := "nearnessOf", desc := "(LBranchwork$Content;LBranchwork$Content;)I" } : Jvm.MethodName)) ∈ jw_T := jw_mem 556 (by decide +kernel) (by decide +kernel)
theorem jq_557 : (Jvm.Cond.selects "Branchwork$Match" ({ cls := "Branchwork$Match", name := "nearnessOf", desc := "(LBranchwork$Content;LBranchwork$Content;)I" } : Jvm.MethodName) ({ cls := "Branchwork$Match", name := "nearnessOf", desc := "(LBranchwork$Content;LBranchwork$Content;)I" } : Jvm.MethodName)) ∈ jw_T := jw_mem 557 (by decide +kernel) (by decide +kernel)
theorem jq_558 : (Jvm.Cond.code ({ cls := "Branchwork$Match", name := "nearnessOf", desc := "(LBranchwork$Content;LBranchwork$Content;)I" } : Jvm.MethodName) prog_6_method_4_code (4 : Nat) (Option.some Jvm.ClassFile.FieldType.int)) ∈ jw_T := jw_mem 558 (by decide +kernel) (by decide +kernel)
theorem jq_559 : (Jvm.Cond.methodLink "Branchwork$Match" (21 : Nat) ({ cls := "Branchwork$Content", name := "length", desc := "()I" } : Jvm.MethodName)) ∈ jw_T := jw_mem 559 (by decide +kernel) (by decide +kernel)
theorem jq_560 : (Jvm.Cond.methodLink "Branchwork$Match" (27 : Nat) ({ cls := "Branchwork$Match", name := "measure", desc := "(LBranchwork$Content;LBranchwork$Content;)V" } : Jvm.MethodName)) ∈ jw_T := jw_mem 560 (by decide +kernel) (by decide +kernel)
theorem jq_562 : (Jvm.Cond.instanceMethod ({ cls := "Branchwork$Match", name := "measure", desc := "(LBranchwork$Content;LBranchwork$Content;)V" } : Jvm.MethodName)) ∈ jw_T := jw_mem 562 (by decide +kernel) (by decide +kernel)
theorem jq_563 : (Jvm.Cond.code ({ cls := "Branchwork$Match", name := "measure", desc := "(LBranchwork$Content;LBranchwork$Content;)V" } : Jvm.MethodName) prog_6_method_6_code (7 : Nat) (Option.none : Option Jvm.ClassFile.FieldType)) ∈ jw_T := jw_mem 563 (by decide +kernel) (by decide +kernel)
theorem jq_564 : (Jvm.Cond.methodLink "Branchwork$Match" (31 : Nat) ({ cls := "java/util/Arrays", name := "fill", desc := "([II)V" } : Jvm.MethodName)) ∈ jw_T := jw_mem 564 (by decide +kernel) (by decide +kernel)
theorem jq_565 : (Jvm.Cond.methodLink "Branchwork$Match" (37 : Nat) ({ cls := "Branchwork$Content", name := "lineAt", desc := "(I)I" } : Jvm.MethodName)) ∈ jw_T := jw_mem 565 (by decide +kernel) (by decide +kernel)
theorem jq_566 : (Jvm.Cond.methodLink "Branchwork$Match" (41 : Nat) ({ cls := "java/lang/Math", name := "max", desc := "(II)I" } : Jvm.MethodName)) ∈ jw_T := jw_mem 566 (by decide +kernel) (by decide +kernel)
theorem jq_567 : (Jvm.Cond.static ({ cls := "java/lang/Math", name := "max", desc := "(II)I" } : Jvm.MethodName)) ∈ jw_T := jw_mem 567 (by decide +kernel) (by decide +kernel)
theorem jq_568 : (Jvm.Cond.code ({ cls := "java/lang/Math", name := "max", desc := "(II)I" } : Jvm.MethodName) prog_21_method_65_code (2 : Nat) (Option.some Jvm.ClassFile.FieldType.int)) ∈ jw_T := jw_mem 568 (by decide +kernel) (by decide +kernel)
theorem jq_569 : (Jvm.Cond.methodLink "Branchwork$Merger" (61 : Nat) ({ cls := "Branchwork$Tree", name := "has", desc := "(I)Z" } : Jvm.MethodName)) ∈ jw_T := jw_mem 569 (by decide +kernel) (by decide +kernel)
theorem jq_570 : (Jvm.Cond.methodLink "Branchwork$Merger" (65 : Nat) ({ cls := "Branchwork$Merger", name := "mergeFile", desc := "(LBranchwork$Tree;LBranchwork$Tree;LBranchwork$Tree;I)V" } : Jvm.MethodName)) ∈ jw_T := jw_mem 570 (by decide +kernel) (by decide +kernel)
theorem jq_572 : (Jvm.Cond.instanceMethod ({ cls := "Branchwork$Merger", name := "mergeFile", desc := "(LBranchwork$Tree;LBranchwork$Tree;LBranchwork$Tree;I)V" } : Jvm.MethodName)) ∈ jw_T := jw_mem 572 (by decide +kernel) (by decide +kernel)
theorem jq_573 : (Jvm.Cond.code ({ cls := "Branchwork$Merger", name := "mergeFile", desc := "(LBranchwork$Tree;LBranchwork$Tree;LBranchwork$Tree;I)V" } : Jvm.MethodName) prog_7_method_6_code (9 : Nat) (Option.none : Option Jvm.ClassFile.FieldType)) ∈ jw_T := jw_mem 573 (by decide +kernel) (by decide +kernel)
theorem jq_574 : (Jvm.Cond.methodLink "Branchwork$Merger" (89 : Nat) ({ cls := "Branchwork$Renames", name := "fateOf", desc := "(I)I" } : Jvm.MethodName)) ∈ jw_T := jw_mem 574 (by decide +kernel) (by decide +kernel)
theorem jq_575 : (Jvm.Cond.instanceMethod ({ cls := "Branchwork$Renames", name := "fateOf", desc := "(I)I" } : Jvm.MethodName)) ∈ jw_T := jw_mem 575 (by decide +kernel) (by decide +kernel)
theorem jq_576 : (Jvm.Cond.selects "Branchwork$Renames" ({ cls := "Branchwork$Renames", name := "fateOf", desc := "(I)I" } : Jvm.MethodName) ({ cls := "Branchwork$Renames", name := "fateOf", desc := "(I)I" } : Jvm.MethodName)) ∈ jw_T := jw_mem 576 (by decide +kernel) (by decide +kernel)
theorem jq_577 : (Jvm.Cond.code ({ cls := "Branchwork$Renames", name := "fateOf", desc := "(I)I" } : Jvm.MethodName) prog_8_method_3_code (2 : Nat) (Option.some Jvm.ClassFile.FieldType.int)) ∈ jw_T := jw_mem 577 (by decide +kernel) (by decide +kernel)
theorem jq_578 : (Jvm.Cond.methodLink "Branchwork$Merger" (92 : Nat) ({ cls := "Branchwork$Merger", name := "mergeLeftOut", desc := "(LBranchwork$Tree;LBranchwork$Tree;II)V" } : Jvm.MethodName)) ∈ jw_T := jw_mem 578 (by decide +kernel) (by decide +kernel)
theorem jq_580 : (Jvm.Cond.instanceMethod ({ cls := "Branchwork$Merger", name := "mergeLeftOut", desc := "(LBranchwork$Tree;LBranchwork$Tree;II)V" } : Jvm.MethodName)) ∈ jw_T := jw_mem 580 (by decide +kernel) (by decide +kernel)
theorem jq_581 : (Jvm.Cond.code ({ cls := "Branchwork$Merger", name := "mergeLeftOut", desc := "(LBranchwork$Tree;LBranchwork$Tree;II)V" } : Jvm.MethodName) prog_7_method_7_code (6 : Nat) (Option.none : Option Jvm.ClassFile.FieldType)) ∈ jw_T := jw_mem 581 (by decide +kernel) (by decide +kernel)
theorem jq_582 : (Jvm.Cond.methodLink "Branchwork$Merger" (73 : Nat) ({ cls := "Branchwork$Tree", name := "fileAt", desc := "(I)LBranchwork$Content;" } : Jvm.MethodName)) ∈ jw_T := jw_mem 582 (by decide +kernel) (by decide +kernel)
theorem jq_583 : (Jvm.Cond.methodLink "Branchwork$Merger" (104 : Nat) ({ cls := "Branchwork$Content", name := "sameAs", desc := "(LBranchwork$Content;)Z" } : Jvm.MethodName)) ∈ jw_T := jw_mem 583 (by decide +kernel) (by decide +kernel)
theorem jq_584 : (Jvm.Cond.methodLink "Branchwork$Merger" (77 : Nat) ({ cls := "Branchwork$Merger", name := "bring", desc := "(LBranchwork$Content;I)Z" } : Jvm.MethodName)) ∈ jw_T := jw_mem 584 (by decide +kernel) (by decide +kernel)
theorem jq_586 : (Jvm.Cond.instanceMethod ({ cls := "Branchwork$Merger", name := "bring", desc := "(LBranchwork$Content;I)Z" } : Jvm.MethodName)) ∈ jw_T := jw_mem 586 (by decide +kernel) (by decide +kernel)
theorem jq_587 : (Jvm.Cond.code ({ cls := "Branchwork$Merger", name := "bring", desc := "(LBranchwork$Content;I)Z" } : Jvm.MethodName) prog_7_method_9_code (3 : Nat) (Option.some Jvm.ClassFile.FieldType.boolean)) ∈ jw_T := jw_mem 587 (by decide +kernel) (by decide +kernel)
theorem jq_588 : (Jvm.Cond.methodLink "Branchwork$Merger" (96 : Nat) ({ cls := "Branchwork$Conflicts", name := "tell", desc := "(II)V" } : Jvm.MethodName)) ∈ jw_T := jw_mem 588 (by decide +kernel) (by decide +kernel)
theorem jq_589 : (Jvm.Cond.instanceMethod ({ cls := "Branchwork$Conflicts", name := "tell", desc := "(II)V" } : Jvm.MethodName)) ∈ jw_T := jw_mem 589 (by decide +kernel) (by decide +kernel)
theorem jq_590 : (Jvm.Cond.selects "Branchwork$Conflicts" ({ cls := "Branchwork$Conflicts", name := "tell", desc := "(II)V" } : Jvm.MethodName) ({ cls := "Branchwork$Conflicts", name := "tell", desc := "(II)V" } : Jvm.MethodName)) ∈ jw_T := jw_mem 590 (by decide +kernel) (by decide +kernel)
theorem jq_591 : (Jvm.Cond.code ({ cls := "Branchwork$Conflicts", name := "tell", desc := "(II)V" } : Jvm.MethodName) prog_3_method_6_code (3 : Nat) (Option.none : Option Jvm.ClassFile.FieldType)) ∈ jw_T := jw_mem 591 (by decide +kernel) (by decide +kernel)
theorem jq_592 : (Jvm.Cond.methodLink "Branchwork$Merger" (108 : Nat) ({ cls := "Branchwork$Content", name := "copyFrom", desc := "(LBranchwork$Content;)V" } : Jvm.MethodName)) ∈ jw_T := jw_mem 592 (by decide +kernel) (by decide +kernel)
theorem jq_593 : (Jvm.Cond.methodLink "Branchwork$Merger" (100 : Nat) ({ cls := "Branchwork$Blender", name := "blendInto", desc := "(LBranchwork$Content;LBranchwork$Content;LBranchwork$Content;LBranchwork$Content;)Z" } : Jvm.MethodName)) ∈ jw_T := jw_mem 593 (by decide +kernel) (by decide +kernel)
theorem jq_594 : (Jvm.Cond.instanceMethod ({ cls := "Branchwork$Blender", name := "blendInto", desc := "(LBranchwork$Content;LBranchwork$Content;LBranchwork$Content;LBranchwork$Content;)Z" } : Jvm.MethodName)) ∈ jw_T := jw_mem 594 (by decide +kernel) (by decide +kernel)
theorem jq_595 : (Jvm.Cond.selects "Branchwork$Blender" ({ cls := "Branchwork$Blender", name := "blendInto", desc := "(LBranchwork$Content;LBranchwork$Content;LBranchwork$Content;LBranchwork$Content;)Z" } : Jvm.MethodName) ({ cls := "Branchwork$Blender", name := "blendInto", desc := "(LBranchwork$Content;LBranchwork$Content;LBranchwork$Content;LBranchwork$Content;)Z" } : Jvm.MethodName)) ∈ jw_T := jw_mem 595 (by decide +kernel) (by decide +kernel)
theorem jq_596 : (Jvm.Cond.code ({ cls := "Branchwork$Blender", name := "blendInto", desc := "(LBranchwork$Content;LBranchwork$Content;LBranchwork$Content;LBranchwork$Content;)Z" } : Jvm.MethodName) prog_2_method_2_code (13 : Nat) (Option.some Jvm.ClassFile.FieldType.boolean)) ∈ jw_T := jw_mem 596 (by decide +kernel) (by decide +kernel)
theorem jq_597 : (Jvm.Cond.methodLink "Branchwork$Blender" (34 : Nat) ({ cls := "Branchwork$Match", name := "pairUp", desc := "(LBranchwork$Content;LBranchwork$Content;)V" } : Jvm.MethodName)) ∈ jw_T := jw_mem 597 (by decide +kernel) (by decide +kernel)
theorem jq_598 : (Jvm.Cond.instanceMethod ({ cls := "Branchwork$Match", name := "pairUp", desc := "(LBranchwork$Content;LBranchwork$Content;)V" } : Jvm.MethodName)) ∈ jw_T := jw_mem 598 (by decide +kernel) (by decide +kernel)
theorem jq_599 : (Jvm.Cond.selects "Branchwork$Match" ({ cls := "Branchwork$Match", name := "pairUp", desc := "(LBranchwork$Content;LBranchwork$Content;)V" } : Jvm.MethodName) ({ cls := "Branchwork$Match", name := "pairUp", desc := "(LBranchwork$Content;LBranchwork$Content;)V" } : Jvm.MethodName)) ∈ jw_T := jw_mem 599 (by decide +kernel) (by decide +kernel)
theorem jq_600 : (Jvm.Cond.code ({ cls := "Branchwork$Match", name := "pairUp", desc := "(LBranchwork$Content;LBranchwork$Content;)V" } : Jvm.MethodName) prog_6_method_5_code (5 : Nat) (Option.none : Option Jvm.ClassFile.FieldType)) ∈ jw_T := jw_mem 600 (by decide +kernel) (by decide +kernel)
theorem jq_601 : (Jvm.Cond.methodLink "Branchwork$Blender" (38 : Nat) ({ cls := "Branchwork$Content", name := "becomeEmpty", desc := "()V" } : Jvm.MethodName)) ∈ jw_T := jw_mem 601 (by decide +kernel) (by decide +kernel)
theorem jq_602 : (Jvm.Cond.instanceMethod ({ cls := "Branchwork$Content", name := "becomeEmpty", desc := "()V" } : Jvm.MethodName)) ∈ jw_T := jw_mem 602 (by decide +kernel) (by decide +kernel)
theorem jq_603 : (Jvm.Cond.selects "Branchwork$Content" ({ cls := "Branchwork$Content", name := "becomeEmpty", desc := "()V" } : Jvm.MethodName) ({ cls := "Branchwork$Content", name := "becomeEmpty", desc := "()V" } : Jvm.MethodName)) ∈ jw_T := jw_mem 603 (by decide +kernel) (by decide +kernel)
theorem jq_604 : (Jvm.Cond.code ({ cls := "Branchwork$Content", name := "becomeEmpty", desc := "()V" } : Jvm.MethodName) prog_4_method_8_code (1 : Nat) (Option.none : Option Jvm.ClassFile.FieldType)) ∈ jw_T := jw_mem 604 (by decide +kernel) (by decide +kernel)
theorem jq_605 : (Jvm.Cond.methodLink "Branchwork$Blender" (41 : Nat) ({ cls := "Branchwork$Content", name := "length", desc := "()I" } : Jvm.MethodName)) ∈ jw_T := jw_mem 605 (by decide +kernel) (by decide +kernel)
theorem jq_606 : (Jvm.Cond.methodLink "Branchwork$Blender" (45 : Nat) ({ cls := "Branchwork$Match", name := "partnerInB", desc := "(I)I" } : Jvm.MethodName)) ∈ jw_T := jw_mem 606 (by decide +kernel) (by decide +kernel)
theorem jq_607 : (Jvm.Cond.instanceMethod ({ cls := "Branchwork$Match", name := "partnerInB", desc := "(I)I" } : Jvm.MethodName)) ∈ jw_T := jw_mem 607 (by decide +kernel) (by decide +kernel)
theorem jq_608 : (Jvm.Cond.selects "Branchwork$Match" ({ cls := "Branchwork$Match", name := "partnerInB", desc := "(I)I" } : Jvm.MethodName) ({ cls := "Branchwork$Match", name := "partnerInB", desc := "(I)I" } : Jvm.MethodName)) ∈ jw_T := jw_mem 608 (by decide +kernel) (by decide +kernel)
theorem jq_609 : (Jvm.Cond.code ({ cls := "Branchwork$Match", name := "partnerInB", desc := "(I)I" } : Jvm.MethodName) prog_6_method_2_code (2 : Nat) (Option.some Jvm.ClassFile.FieldType.int)) ∈ jw_T := jw_mem 609 (by decide +kernel) (by decide +kernel)
theorem jq_610 : (Jvm.Cond.methodLink "Branchwork$Blender" (49 : Nat) ({ cls := "Branchwork$Content", name := "becomePart", desc := "(LBranchwork$Content;II)V" } : Jvm.MethodName)) ∈ jw_T := jw_mem 610 (by decide +kernel) (by decide +kernel)
theorem jq_611 : (Jvm.Cond.instanceMethod ({ cls := "Branchwork$Content", name := "becomePart", desc := "(LBranchwork$Content;II)V" } : Jvm.MethodName)) ∈ jw_T := jw_mem 611 (by decide +kernel) (by decide +kernel)
theorem jq_612 : (Jvm.Cond.selects "Branchwork$Content" ({ cls := "Branchwork$Content", name := "becomePart", desc := "(LBranchwork$Content;II)V" } : Jvm.MethodName) ({ cls := "Branchwork$Content", name := "becomePart", desc := "(LBranchwork$Content;II)V" } : Jvm.MethodName)) ∈ jw_T := jw_mem 612 (by decide +kernel) (by decide +kernel)
theorem jq_613 : (Jvm.Cond.code ({ cls := "Branchwork$Content", name := "becomePart", desc := "(LBranchwork$Content;II)V" } : Jvm.MethodName) prog_4_method_13_code (5 : Nat) (Option.none : Option Jvm.ClassFile.FieldType)) ∈ jw_T := jw_mem 613 (by decide +kernel) (by decide +kernel)
theorem jq_614 : (Jvm.Cond.methodLink "Branchwork$Content" (39 : Nat) ({ cls := "Branchwork$Content", name := "becomeEmpty", desc := "()V" } : Jvm.MethodName)) ∈ jw_T := jw_mem 614 (by decide +kernel) (by decide +kernel)
theorem jq_615 : (Jvm.Cond.methodLink "Branchwork$Content" (35 : Nat) ({ cls := "Branchwork$Content", name := "append", desc := "(I)V" } : Jvm.MethodName)) ∈ jw_T := jw_mem 615 (by decide +kernel) (by decide +kernel)
theorem jq_616 : (Jvm.Cond.instanceMethod ({ cls := "Branchwork$Content", name := "append", desc := "(I)V" } : Jvm.MethodName)) ∈ jw_T := jw_mem 616 (by decide +kernel) (by decide +kernel)
theorem jq_617 : (Jvm.Cond.selects "Branchwork$Content" ({ cls := "Branchwork$Content", name := "append", desc := "(I)V" } : Jvm.MethodName) ({ cls := "Branchwork$Content", name := "append", desc := "(I)V" } : Jvm.MethodName)) ∈ jw_T := jw_mem 617 (by decide +kernel) (by decide +kernel)
theorem jq_618 : (Jvm.Cond.code ({ cls := "Branchwork$Content", name := "append", desc := "(I)V" } : Jvm.MethodName) prog_4_method_11_code (2 : Nat) (Option.none : Option Jvm.ClassFile.FieldType)) ∈ jw_T := jw_mem 618 (by decide +kernel) (by decide +kernel)
theorem jq_619 : (Jvm.Cond.methodLink "Branchwork$Blender" (53 : Nat) ({ cls := "Branchwork$Blender", name := "blendParts", desc := "(LBranchwork$Content;)Z" } : Jvm.MethodName)) ∈ jw_T := jw_mem 619 (by decide +kernel) (by decide +kernel)
theorem jq_621 : (Jvm.Cond.instanceMethod ({ cls := "Branchwork$Blender", name := "blendParts", desc := "(LBranchwork$Content;)Z" } : Jvm.MethodName)) ∈ jw_T := jw_mem 621 (by decide +kernel) (by decide +kernel)
theorem jq_622 : (Jvm.Cond.code ({ cls := "Branchwork$Blender", name := "blendParts", desc := "(LBranchwork$Content;)Z" } : Jvm.MethodName) prog_2_method_3_code (2 : Nat) (Option.some Jvm.ClassFile.FieldType.boolean)) ∈ jw_T := jw_mem 622 (by decide +kernel) (by decide +kernel)
theorem jq_623 : (Jvm.Cond.methodLink "Branchwork$Blender" (64 : Nat) ({ cls := "Branchwork$Content", name := "sameAs", desc := "(LBranchwork$Content;)Z" } : Jvm.MethodName)) ∈ jw_T := jw_mem 623 (by decide +kernel) (by decide +kernel)
theorem jq_624 : (Jvm.Cond.methodLink "Branchwork$Blender" (67 : Nat) ({ cls := "Branchwork$Content", name := "appendAll", desc := "(LBranchwork$Content;)V" } : Jvm.MethodName)) ∈ jw_T := jw_mem 624 (by decide +kernel) (by decide +kernel)
theorem jq_625 : (Jvm.Cond.instanceMethod ({ cls := "Branchwork$Content", name := "appendAll", desc := "(LBranchwork$Content;)V" } : Jvm.MethodName)) ∈ jw_T := jw_mem 625 (by decide +kernel) (by decide +kernel)
theorem jq_626 : (Jvm.Cond.selects "Branchwork$Content" ({ cls := "Branchwork$Content", name := "appendAll", desc := "(LBranchwork$Content;)V" } : Jvm.MethodName) ({ cls := "Branchwork$Content", name := "appendAll", desc := "(LBranchwork$Content;)V" } : Jvm.MethodName)) ∈ jw_T := jw_mem 626 (by decide +kernel) (by decide +kernel)
theorem jq_627 : (Jvm.Cond.code ({ cls := "Branchwork$Content", name := "appendAll", desc := "(LBranchwork$Content;)V" } : Jvm.MethodName) prog_4_method_12_code (3 : Nat) (Option.none : Option Jvm.ClassFile.FieldType)) ∈ jw_T := jw_mem 627 (by decide +kernel) (by decide +kernel)
theorem jq_628 : (Jvm.Cond.methodLink "Branchwork$Blender" (57 : Nat) ({ cls := "Branchwork$Content", name := "lineAt", desc := "(I)I" } : Jvm.MethodName)) ∈ jw_T := jw_mem 628 (by decide +kernel) (by decide +kernel)
theorem jq_629 : (Jvm.Cond.methodLink "Branchwork$Blender" (60 : Nat) ({ cls := "Branchwork$Content", name := "append", desc := "(I)V" } : Jvm.MethodName)) ∈ jw_T := jw_mem 629 (by decide +kernel) (by decide +kernel)
theorem jq_630 : (Jvm.Cond.methodLink "Branchwork$Merger" (69 : Nat) ({ cls := "Branchwork$Merger", name := "isNew", desc := "(LBranchwork$Tree;LBranchwork$Tree;LBranchwork$Renames;I)Z" } : Jvm.MethodName)) ∈ jw_T := jw_mem 630 (by decide +kernel) (by decide +kernel)
theorem jq_631 : (Jvm.Cond.static ({ cls := "Branchwork$Merger", name := "isNew", desc := "(LBranchwork$Tree;LBranchwork$Tree;LBranchwork$Renames;I)Z" } : Jvm.MethodName)) ∈ jw_T := jw_mem 631 (by decide +kernel) (by decide +kernel)
theorem jq_632 : (Jvm.Cond.code ({ cls := "Branchwork$Merger", name := "isNew", desc := "(LBranchwork$Tree;LBranchwork$Tree;LBranchwork$Renames;I)Z" } : Jvm.MethodName) prog_7_method_5_code (4 : Nat) (Option.some Jvm.ClassFile.FieldType.boolean)) ∈ jw_T := jw_mem 632 (by decide +kernel) (by decide +kernel)
theorem jq_633 : (Jvm.Cond.methodLink "Branchwork$Merger" (85 : Nat) ({ cls := "Branchwork$Renames", name := "sourceOf", desc := "(I)I" } : Jvm.MethodName)) ∈ jw_T := jw_mem 633 (by decide +kernel) (by decide +kernel)
theorem jq_634 : (Jvm.Cond.instanceMethod ({ cls := "Branchwork$Renames", name := "sourceOf", desc := "(I)I" } : Jvm.MethodName)) ∈ jw_T := jw_mem 634 (by decide +kernel) (by decide +kernel)
theorem jq_635 : (Jvm.Cond.selects "Branchwork$Renames" ({ cls := "Branchwork$Renames", name := "sourceOf", desc := "(I)I" } : Jvm.MethodName) ({ cls := "Branchwork$Renames", name := "sourceOf", desc := "(I)I" } : Jvm.MethodName)) ∈ jw_T := jw_mem 635 (by decide +kernel) (by decide +kernel)
theorem jq_636 : (Jvm.Cond.code ({ cls := "Branchwork$Renames", name := "sourceOf", desc := "(I)I" } : Jvm.MethodName) prog_8_method_4_code (2 : Nat) (Option.some Jvm.ClassFile.FieldType.int)) ∈ jw_T := jw_mem 636 (by decide +kernel) (by decide +kernel)
theorem jq_637 : (Jvm.Cond.methodLink "Branchwork$Merger" (81 : Nat) ({ cls := "Branchwork$Merger", name := "joinNew", desc := "(LBranchwork$Content;LBranchwork$Content;I)V" } : Jvm.MethodName)) ∈ jw_T := jw_mem 637 (by decide +kernel) (by decide +kernel)
theorem jq_639 : (Jvm.Cond.instanceMethod ({ cls := "Branchwork$Merger", name := "joinNew", desc := "(LBranchwork$Content;LBranchwork$Content;I)V" } : Jvm.MethodName)) ∈ jw_T := jw_mem 639 (by decide +kernel) (by decide +kernel)
theorem jq_640 : (Jvm.Cond.code ({ cls := "Branchwork$Merger", name := "joinNew", desc := "(LBranchwork$Content;LBranchwork$Content;I)V" } : Jvm.MethodName) prog_7_method_8_code (4 : Nat) (Option.none : Option Jvm.ClassFile.FieldType)) ∈ jw_T := jw_mem 640 (by decide +kernel) (by decide +kernel)
theorem jq_641 : (Jvm.Cond.methodLink "Branchwork" (194 : Nat) ({ cls := "Branchwork$Merger", name := "result", desc := "()LBranchwork$Tree;" } : Jvm.MethodName)) ∈ jw_T := jw_mem 641 (by decide +kernel) (by decide +kernel)
theorem jq_642 : (Jvm.Cond.instanceMethod ({ cls := "Branchwork$Merger", name := "result", desc := "()LBranchwork$Tree;" } : Jvm.MethodName)) ∈ jw_T := jw_mem 642 (by decide +kernel) (by decide +kernel)
theorem jq_643 : (Jvm.Cond.selects "Branchwork$Merger" ({ cls := "Branchwork$Merger", name := "result", desc := "()LBranchwork$Tree;" } : Jvm.MethodName) ({ cls := "Branchwork$Merger", name := "result", desc := "()LBranchwork$Tree;" } : Jvm.MethodName)) ∈ jw_T := jw_mem 643 (by decide +kernel) (by decide +kernel)
theorem jq_644 : (Jvm.Cond.code ({ cls := "Branchwork$Merger", name := "result", desc := "()LBranchwork$Tree;" } : Jvm.MethodName) prog_7_method_2_code (1 : Nat) (Option.some (Jvm.ClassFile.FieldType.object "Branchwork$Tree"))) ∈ jw_T := jw_mem 644 (by decide +kernel) (by decide +kernel)
theorem jq_645 : (Jvm.Cond.methodLink "Branchwork" (198 : Nat) ({ cls := "Branchwork$Merger", name := "told", desc := "()LBranchwork$Conflicts;" } : Jvm.MethodName)) ∈ jw_T := jw_mem 645 (by decide +kernel) (by decide +kernel)
theorem jq_646 : (Jvm.Cond.instanceMethod ({ cls := "Branchwork$Merger", name := "told", desc := "()LBranchwork$Conflicts;" } : Jvm.MethodName)) ∈ jw_T := jw_mem 646 (by decide +kernel) (by decide +kernel)
theorem jq_647 : (Jvm.Cond.selects "Branchwork$Merger" ({ cls := "Branchwork$Merger", name := "told", desc := "()LBranchwork$Conflicts;" } : Jvm.MethodName) ({ cls := "Branchwork$Merger", name := "told", desc := "()LBranchwork$Conflicts;" } : Jvm.MethodName)) ∈ jw_T := jw_mem 647 (by decide +kernel) (by decide +kernel)
theorem jq_648 : (Jvm.Cond.code ({ cls := "Branchwork$Merger", name := "told", desc := "()LBranchwork$Conflicts;" } : Jvm.MethodName) prog_7_method_3_code (1 : Nat) (Option.some (Jvm.ClassFile.FieldType.object "Branchwork$Conflicts"))) ∈ jw_T := jw_mem 648 (by decide +kernel) (by decide +kernel)
theorem jq_649 : (Jvm.Cond.methodLink "Branchwork" (202 : Nat) ({ cls := "Branchwork$Conflicts", name := "copyFrom", desc := "(LBranchwork$Conflicts;)V" } : Jvm.MethodName)) ∈ jw_T := jw_mem 649 (by decide +kernel) (by decide +kernel)
theorem jq_650 : (Jvm.Cond.instanceMethod ({ cls := "Branchwork$Conflicts", name := "copyFrom", desc := "(LBranchwork$Conflicts;)V" } : Jvm.MethodName)) ∈ jw_T := jw_mem 650 (by decide +kernel) (by decide +kernel)
theorem jq_651 : (Jvm.Cond.selects "Branchwork$Conflicts" ({ cls := "Branchwork$Conflicts", name := "copyFrom", desc := "(LBranchwork$Conflicts;)V" } : Jvm.MethodName) ({ cls := "Branchwork$Conflicts", name := "copyFrom", desc := "(LBranchwork$Conflicts;)V" } : Jvm.MethodName)) ∈ jw_T := jw_mem 651 (by decide +kernel) (by decide +kernel)
theorem jq_652 : (Jvm.Cond.code ({ cls := "Branchwork$Conflicts", name := "copyFrom", desc := "(LBranchwork$Conflicts;)V" } : Jvm.MethodName) prog_3_method_9_code (3 : Nat) (Option.none : Option Jvm.ClassFile.FieldType)) ∈ jw_T := jw_mem 652 (by decide +kernel) (by decide +kernel)
theorem jq_653 : (Jvm.Cond.methodLink "Branchwork$Conflicts" (26 : Nat) ({ cls := "Branchwork$Conflicts", name := "clear", desc := "()V" } : Jvm.MethodName)) ∈ jw_T := jw_mem 653 (by decide +kernel) (by decide +kernel)
theorem jq_654 : (Jvm.Cond.methodLink "Branchwork$Conflicts" (29 : Nat) ({ cls := "Branchwork$Conflicts", name := "howMany", desc := "()I" } : Jvm.MethodName)) ∈ jw_T := jw_mem 654 (by decide +kernel) (by decide +kernel)
theorem jq_655 : (Jvm.Cond.methodLink "Branchwork$Conflicts" (33 : Nat) ({ cls := "Branchwork$Conflicts", name := "codeOf", desc := "(I)I" } : Jvm.MethodName)) ∈ jw_T := jw_mem 655 (by decide +kernel) (by decide +kernel)
theorem jq_656 : (Jvm.Cond.instanceMethod ({ cls := "Branchwork$Conflicts", name := "codeOf", desc := "(I)I" } : Jvm.MethodName)) ∈ jw_T := jw_mem 656 (by decide +kernel) (by decide +kernel)
theorem jq_657 : (Jvm.Cond.selects "Branchwork$Conflicts" ({ cls := "Branchwork$Conflicts", name := "codeOf", desc := "(I)I" } : Jvm.MethodName) ({ cls := "Branchwork$Conflicts", name := "codeOf", desc := "(I)I" } : Jvm.MethodName)) ∈ jw_T := jw_mem 657 (by decide +kernel) (by decide +kernel)
theorem jq_658 : (Jvm.Cond.code ({ cls := "Branchwork$Conflicts", name := "codeOf", desc := "(I)I" } : Jvm.MethodName) prog_3_method_4_code (2 : Nat) (Option.some Jvm.ClassFile.FieldType.int)) ∈ jw_T := jw_mem 658 (by decide +kernel) (by decide +kernel)
theorem jq_659 : (Jvm.Cond.methodLink "Branchwork$Conflicts" (22 : Nat) ({ cls := "Branchwork$Conflicts", name := "holds", desc := "(I)Z" } : Jvm.MethodName)) ∈ jw_T := jw_mem 659 (by decide +kernel) (by decide +kernel)
theorem jq_660 : (Jvm.Cond.instanceMethod ({ cls := "Branchwork$Conflicts", name := "holds", desc := "(I)Z" } : Jvm.MethodName)) ∈ jw_T := jw_mem 660 (by decide +kernel) (by decide +kernel)
theorem jq_661 : (Jvm.Cond.selects "Branchwork$Conflicts" ({ cls := "Branchwork$Conflicts", name := "holds", desc := "(I)Z" } : Jvm.MethodName) ({ cls := "Branchwork$Conflicts", name := "holds", desc := "(I)Z" } : Jvm.MethodName)) ∈ jw_T := jw_mem 661 (by decide +kernel) (by decide +kernel)
theorem jq_662 : (Jvm.Cond.code ({ cls := "Branchwork$Conflicts", name := "holds", desc := "(I)Z" } : Jvm.MethodName) prog_3_method_3_code (2 : Nat) (Option.some Jvm.ClassFile.FieldType.boolean)) ∈ jw_T := jw_mem 662 (by decide +kernel) (by decide +kernel)
theorem jq_663 : (Jvm.Cond.methodLink "Branchwork$Conflicts" (37 : Nat) ({ cls := "Branchwork$Conflicts", name := "pathOf", desc := "(I)I" } : Jvm.MethodName)) ∈ jw_T := jw_mem 663 (by decide +kernel) (by decide +kernel)
theorem jq_664 : (Jvm.Cond.instanceMethod ({ cls := "Branchwork$Conflicts", name := "pathOf", desc := "(I)I" } : Jvm.MethodName)) ∈ jw_T := jw_mem 664 (by decide +kernel) (by decide +kernel)
theorem jq_665 : (Jvm.Cond.selects "Branchwork$Conflicts" ({ cls := "Branchwork$Conflicts", name := "pathOf", desc := "(I)I" } : Jvm.MethodName) ({ cls := "Branchwork$Conflicts", name := "pathOf", desc := "(I)I" } : Jvm.MethodName)) ∈ jw_T := jw_mem 665 (by decide +kernel) (by decide +kernel)
theorem jq_666 : (Jvm.Cond.code ({ cls := "Branchwork$Conflicts", name := "pathOf", desc := "(I)I" } : Jvm.MethodName) prog_3_method_5_code (2 : Nat) (Option.some Jvm.ClassFile.FieldType.int)) ∈ jw_T := jw_mem 666 (by decide +kernel) (by decide +kernel)
theorem jq_667 : (Jvm.Cond.methodLink "Branchwork$Conflicts" (40 : Nat) ({ cls := "Branchwork$Conflicts", name := "tell", desc := "(II)V" } : Jvm.MethodName)) ∈ jw_T := jw_mem 667 (by decide +kernel) (by decide +kernel)
theorem jq_668 : (Jvm.Cond.methodLink "BranchworkLaw" (73 : Nat) ({ cls := "Branchwork", name := "settle", desc := "(I)I" } : Jvm.MethodName)) ∈ jw_T := jw_mem 668 (by decide +kernel) (by decide +kernel)
theorem jq_669 : (Jvm.Cond.instanceMethod ({ cls := "Branchwork", name := "settle", desc := "(I)I" } : Jvm.MethodName)) ∈ jw_T := jw_mem 669 (by decide +kernel) (by decide +kernel)
theorem jq_670 : (Jvm.Cond.selects "Branchwork" ({ cls := "Branchwork", name := "settle", desc := "(I)I" } : Jvm.MethodName) ({ cls := "Branchwork", name := "settle", desc := "(I)I" } : Jvm.MethodName)) ∈ jw_T := jw_mem 670 (by decide +kernel) (by decide +kernel)
theorem jq_671 : (Jvm.Cond.code ({ cls := "Branchwork", name := "settle", desc := "(I)I" } : Jvm.MethodName) prog_1_method_12_code (2 : Nat) (Option.some Jvm.ClassFile.FieldType.int)) ∈ jw_T := jw_mem 671 (by decide +kernel) (by decide +kernel)
theorem jq_672 : (Jvm.Cond.methodLink "Branchwork" (205 : Nat) ({ cls := "Branchwork", name := "requireConflict", desc := "(I)V" } : Jvm.MethodName)) ∈ jw_T := jw_mem 672 (by decide +kernel) (by decide +kernel)
theorem jq_674 : (Jvm.Cond.instanceMethod ({ cls := "Branchwork", name := "requireConflict", desc := "(I)V" } : Jvm.MethodName)) ∈ jw_T := jw_mem 674 (by decide +kernel) (by decide +kernel)
theorem jq_675 : (Jvm.Cond.code ({ cls := "Branchwork", name := "requireConflict", desc := "(I)V" } : Jvm.MethodName) prog_1_method_44_code (2 : Nat) (Option.none : Option Jvm.ClassFile.FieldType)) ∈ jw_T := jw_mem 675 (by decide +kernel) (by decide +kernel)
theorem jq_676 : (Jvm.Cond.methodLink "Branchwork" (362 : Nat) ({ cls := "Branchwork$Conflicts", name := "holds", desc := "(I)Z" } : Jvm.MethodName)) ∈ jw_T := jw_mem 676 (by decide +kernel) (by decide +kernel)
theorem jq_678 : (Jvm.Cond.methodLink "Branchwork" (208 : Nat) ({ cls := "Branchwork$Conflicts", name := "drop", desc := "(I)V" } : Jvm.MethodName)) ∈ jw_T := jw_mem 678 (by decide +kernel) (by decide +kernel)
theorem jq_679 : (Jvm.Cond.instanceMethod ({ cls := "Branchwork$Conflicts", name := "drop", desc := "(I)V" } : Jvm.MethodName)) ∈ jw_T := jw_mem 679 (by decide +kernel) (by decide +kernel)
theorem jq_680 : (Jvm.Cond.selects "Branchwork$Conflicts" ({ cls := "Branchwork$Conflicts", name := "drop", desc := "(I)V" } : Jvm.MethodName) ({ cls := "Branchwork$Conflicts", name := "drop", desc := "(I)V" } : Jvm.MethodName)) ∈ jw_T := jw_mem 680 (by decide +kernel) (by decide +kernel)
theorem jq_681 : (Jvm.Cond.code ({ cls := "Branchwork$Conflicts", name := "drop", desc := "(I)V" } : Jvm.MethodName) prog_3_method_7_code (3 : Nat) (Option.none : Option Jvm.ClassFile.FieldType)) ∈ jw_T := jw_mem 681 (by decide +kernel) (by decide +kernel)
theorem jq_682 : (Jvm.Cond.methodLink "BranchworkLaw" (106 : Nat) ({ cls := "Branchwork", name := "collect", desc := "()I" } : Jvm.MethodName)) ∈ jw_T := jw_mem 682 (by decide +kernel) (by decide +kernel)
theorem jq_683 : (Jvm.Cond.instanceMethod ({ cls := "Branchwork", name := "collect", desc := "()I" } : Jvm.MethodName)) ∈ jw_T := jw_mem 683 (by decide +kernel) (by decide +kernel)
theorem jq_684 : (Jvm.Cond.selects "Branchwork" ({ cls := "Branchwork", name := "collect", desc := "()I" } : Jvm.MethodName) ({ cls := "Branchwork", name := "collect", desc := "()I" } : Jvm.MethodName)) ∈ jw_T := jw_mem 684 (by decide +kernel) (by decide +kernel)
theorem jq_685 : (Jvm.Cond.code ({ cls := "Branchwork", name := "collect", desc := "()I" } : Jvm.MethodName) prog_1_method_13_code (2 : Nat) (Option.some Jvm.ClassFile.FieldType.int)) ∈ jw_T := jw_mem 685 (by decide +kernel) (by decide +kernel)
theorem jq_686 : (Jvm.Cond.methodLink "Branchwork" (211 : Nat) ({ cls := "Branchwork", name := "garbage", desc := "()I" } : Jvm.MethodName)) ∈ jw_T := jw_mem 686 (by decide +kernel) (by decide +kernel)
theorem jq_687 : (Jvm.Cond.instanceMethod ({ cls := "Branchwork", name := "garbage", desc := "()I" } : Jvm.MethodName)) ∈ jw_T := jw_mem 687 (by decide +kernel) (by decide +kernel)
theorem jq_688 : (Jvm.Cond.selects "Branchwork" ({ cls := "Branchwork", name := "garbage", desc := "()I" } : Jvm.MethodName) ({ cls := "Branchwork", name := "garbage", desc := "()I" } : Jvm.MethodName)) ∈ jw_T := jw_mem 688 (by decide +kernel) (by decide +kernel)
theorem jq_689 : (Jvm.Cond.code ({ cls := "Branchwork", name := "garbage", desc := "()I" } : Jvm.MethodName) prog_1_method_27_code (1 : Nat) (Option.some Jvm.ClassFile.FieldType.int)) ∈ jw_T := jw_mem 689 (by decide +kernel) (by decide +kernel)
theorem jq_690 : (Jvm.Cond.methodLink "Branchwork" (220 : Nat) ({ cls := "Branchwork$History", name := "kept", desc := "()I" } : Jvm.MethodName)) ∈ jw_T := jw_mem 690 (by decide +kernel) (by decide +kernel)
theorem jq_691 : (Jvm.Cond.instanceMethod ({ cls := "Branchwork$History", name := "kept", desc := "()I" } : Jvm.MethodName)) ∈ jw_T := jw_mem 691 (by decide +kernel) (by decide +kernel)
theorem jq_692 : (Jvm.Cond.selects "Branchwork$History" ({ cls := "Branchwork$History", name := "kept", desc := "()I" } : Jvm.MethodName) ({ cls := "Branchwork$History", name := "kept", desc := "()I" } : Jvm.MethodName)) ∈ jw_T := jw_mem 692 (by decide +kernel) (by decide +kernel)
theorem jq_693 : (Jvm.Cond.code ({ cls := "Branchwork$History", name := "kept", desc := "()I" } : Jvm.MethodName) prog_5_method_5_code (1 : Nat) (Option.some Jvm.ClassFile.FieldType.int)) ∈ jw_T := jw_mem 693 (by decide +kernel) (by decide +kernel)
theorem jq_694 : (Jvm.Cond.methodLink "Branchwork" (295 : Nat) ({ cls := "Branchwork$History", name := "countObjects", desc := "(I)I" } : Jvm.MethodName)) ∈ jw_T := jw_mem 694 (by decide +kernel) (by decide +kernel)
theorem jq_695 : (Jvm.Cond.instanceMethod ({ cls := "Branchwork$History", name := "countObjects", desc := "(I)I" } : Jvm.MethodName)) ∈ jw_T := jw_mem 695 (by decide +kernel) (by decide +kernel)
theorem jq_696 : (Jvm.Cond.selects "Branchwork$History" ({ cls := "Branchwork$History", name := "countObjects", desc := "(I)I" } : Jvm.MethodName) ({ cls := "Branchwork$History", name := "countObjects", desc := "(I)I" } : Jvm.MethodName)) ∈ jw_T := jw_mem 696 (by decide +kernel) (by decide +kernel)
theorem jq_697 : (Jvm.Cond.code ({ cls := "Branchwork$History", name := "countObjects", desc := "(I)I" } : Jvm.MethodName) prog_5_method_16_code (2 : Nat) (Option.some Jvm.ClassFile.FieldType.int)) ∈ jw_T := jw_mem 697 (by decide +kernel) (by decide +kernel)
theorem jq_698 : (Jvm.Cond.methodLink "Branchwork$History" (73 : Nat) ({ cls := "java/lang/Integer", name := "bitCount", desc := "(I)I" } : Jvm.MethodName)) ∈ jw_T := jw_mem 698 (by decide +kernel) (by decide +kernel)
theorem jq_699 : (Jvm.Cond.static ({ cls := "java/lang/Integer", name := "bitCount", desc := "(I)I" } : Jvm.MethodName)) ∈ jw_T := jw_mem 699 (by decide +kernel) (by decide +kernel)
theorem jq_700 : (Jvm.Cond.code ({ cls := "java/lang/Integer", name := "bitCount", desc := "(I)I" } : Jvm.MethodName) prog_20_method_49_code (1 : Nat) (Option.some Jvm.ClassFile.FieldType.int)) ∈ jw_T := jw_mem 700 (by decide +kernel) (by decide +kernel)
theorem jq_701 : (Jvm.Cond.constant "java/lang/Integer" (265 : Nat) (1431655765 : Int32)) ∈ jw_T := jw_mem 701 (by decide +kernel) (by decide +kernel)
theorem jq_702 : (Jvm.Cond.constant "java/lang/Integer" (266 : Nat) (858993459 : Int32)) ∈ jw_T := jw_mem 702 (by decide +kernel) (by decide +kernel)
theorem jq_703 : (Jvm.Cond.constant "java/lang/Integer" (267 : Nat) (252645135 : Int32)) ∈ jw_T := jw_mem 703 (by decide +kernel) (by decide +kernel)
theorem jq_704 : (Jvm.Cond.methodLink "Branchwork$History" (78 : Nat) ({ cls := "Branchwork$History", name := "countTrees", desc := "(I)I" } : Jvm.MethodName)) ∈ jw_T := jw_mem 704 (by decide +kernel) (by decide +kernel)
theorem jq_705 : (Jvm.Cond.instanceMethod ({ cls := "Branchwork$History", name := "countTrees", desc := "(I)I" } : Jvm.MethodName)) ∈ jw_T := jw_mem 705 (by decide +kernel) (by decide +kernel)
theorem jq_706 : (Jvm.Cond.selects "Branchwork$History" ({ cls := "Branchwork$History", name := "countTrees", desc := "(I)I" } : Jvm.MethodName) ({ cls := "Branchwork$History", name := "countTrees", desc := "(I)I" } : Jvm.MethodName)) ∈ jw_T := jw_mem 706 (by decide +kernel) (by decide +kernel)
theorem jq_707 : (Jvm.Cond.code ({ cls := "Branchwork$History", name := "countTrees", desc := "(I)I" } : Jvm.MethodName) prog_5_method_17_code (4 : Nat) (Option.some Jvm.ClassFile.FieldType.int)) ∈ jw_T := jw_mem 707 (by decide +kernel) (by decide +kernel)
theorem jq_708 : (Jvm.Cond.methodLink "Branchwork$History" (81 : Nat) ({ cls := "Branchwork$History", name := "countContents", desc := "(I)I" } : Jvm.MethodName)) ∈ jw_T := jw_mem 708 (by decide +kernel) (by decide +kernel)
theorem jq_709 : (Jvm.Cond.instanceMethod ({ cls := "Branchwork$History", name := "countContents", desc := "(I)I" } : Jvm.MethodName)) ∈ jw_T := jw_mem 709 (by decide +kernel) (by decide +kernel)
theorem jq_710 : (Jvm.Cond.selects "Branchwork$History" ({ cls := "Branchwork$History", name := "countContents", desc := "(I)I" } : Jvm.MethodName) ({ cls := "Branchwork$History", name := "countContents", desc := "(I)I" } : Jvm.MethodName)) ∈ jw_T := jw_mem 710 (by decide +kernel) (by decide +kernel)
theorem jq_711 : (Jvm.Cond.code ({ cls := "Branchwork$History", name := "countContents", desc := "(I)I" } : Jvm.MethodName) prog_5_method_18_code (4 : Nat) (Option.some Jvm.ClassFile.FieldType.int)) ∈ jw_T := jw_mem 711 (by decide +kernel) (by decide +kernel)
theorem jq_712 : (Jvm.Cond.methodLink "Branchwork$History" (84 : Nat) ({ cls := "Branchwork$History", name := "meetContents", desc := "(I)V" } : Jvm.MethodName)) ∈ jw_T := jw_mem 712 (by decide +kernel) (by decide +kernel)
theorem jq_714 : (Jvm.Cond.instanceMethod ({ cls := "Branchwork$History", name := "meetContents", desc := "(I)V" } : Jvm.MethodName)) ∈ jw_T := jw_mem 714 (by decide +kernel) (by decide +kernel)
theorem jq_715 : (Jvm.Cond.code ({ cls := "Branchwork$History", name := "meetContents", desc := "(I)V" } : Jvm.MethodName) prog_5_method_20_code (5 : Nat) (Option.none : Option Jvm.ClassFile.FieldType)) ∈ jw_T := jw_mem 715 (by decide +kernel) (by decide +kernel)
theorem jq_716 : (Jvm.Cond.methodLink "Branchwork$History" (102 : Nat) ({ cls := "java/util/Arrays", name := "fill", desc := "([II)V" } : Jvm.MethodName)) ∈ jw_T := jw_mem 716 (by decide +kernel) (by decide +kernel)
theorem jq_717 : (Jvm.Cond.methodLink "Branchwork" (214 : Nat) ({ cls := "Branchwork", name := "reached", desc := "()I" } : Jvm.MethodName)) ∈ jw_T := jw_mem 717 (by decide +kernel) (by decide +kernel)
theorem jq_719 : (Jvm.Cond.instanceMethod ({ cls := "Branchwork", name := "reached", desc := "()I" } : Jvm.MethodName)) ∈ jw_T := jw_mem 719 (by decide +kernel) (by decide +kernel)
theorem jq_720 : (Jvm.Cond.code ({ cls := "Branchwork", name := "reached", desc := "()I" } : Jvm.MethodName) prog_1_method_35_code (3 : Nat) (Option.some Jvm.ClassFile.FieldType.int)) ∈ jw_T := jw_mem 720 (by decide +kernel) (by decide +kernel)
theorem jq_721 : (Jvm.Cond.methodLink "Branchwork" (337 : Nat) ({ cls := "Branchwork$History", name := "setOf", desc := "(I)I" } : Jvm.MethodName)) ∈ jw_T := jw_mem 721 (by decide +kernel) (by decide +kernel)
theorem jq_722 : (Jvm.Cond.methodLink "Branchwork" (340 : Nat) ({ cls := "Branchwork$History", name := "withAncestors", desc := "(I)I" } : Jvm.MethodName)) ∈ jw_T := jw_mem 722 (by decide +kernel) (by decide +kernel)
theorem jq_723 : (Jvm.Cond.methodLink "Branchwork" (217 : Nat) ({ cls := "Branchwork$History", name := "keepOnly", desc := "(I)V" } : Jvm.MethodName)) ∈ jw_T := jw_mem 723 (by decide +kernel) (by decide +kernel)
theorem jq_724 : (Jvm.Cond.instanceMethod ({ cls := "Branchwork$History", name := "keepOnly", desc := "(I)V" } : Jvm.MethodName)) ∈ jw_T := jw_mem 724 (by decide +kernel) (by decide +kernel)
theorem jq_725 : (Jvm.Cond.selects "Branchwork$History" ({ cls := "Branchwork$History", name := "keepOnly", desc := "(I)V" } : Jvm.MethodName) ({ cls := "Branchwork$History", name := "keepOnly", desc := "(I)V" } : Jvm.MethodName)) ∈ jw_T := jw_mem 725 (by decide +kernel) (by decide +kernel)
theorem jq_726 : (Jvm.Cond.code ({ cls := "Branchwork$History", name := "keepOnly", desc := "(I)V" } : Jvm.MethodName) prog_5_method_7_code (2 : Nat) (Option.none : Option Jvm.ClassFile.FieldType)) ∈ jw_T := jw_mem 726 (by decide +kernel) (by decide +kernel)
theorem jq_727 : (Jvm.Cond.methodLink "BranchworkLaw" (41 : Nat) ({ cls := "Branchwork", name := "many", desc := "(I)I" } : Jvm.MethodName)) ∈ jw_T := jw_mem 727 (by decide +kernel) (by decide +kernel)
theorem jq_728 : (Jvm.Cond.instanceMethod ({ cls := "Branchwork", name := "many", desc := "(I)I" } : Jvm.MethodName)) ∈ jw_T := jw_mem 728 (by decide +kernel) (by decide +kernel)
theorem jq_729 : (Jvm.Cond.selects "Branchwork" ({ cls := "Branchwork", name := "many", desc := "(I)I" } : Jvm.MethodName) ({ cls := "Branchwork", name := "many", desc := "(I)I" } : Jvm.MethodName)) ∈ jw_T := jw_mem 729 (by decide +kernel) (by decide +kernel)
theorem jq_730 : (Jvm.Cond.code ({ cls := "Branchwork", name := "many", desc := "(I)I" } : Jvm.MethodName) prog_1_method_14_code (2 : Nat) (Option.some Jvm.ClassFile.FieldType.int)) ∈ jw_T := jw_mem 730 (by decide +kernel) (by decide +kernel)
theorem jq_731 : (Jvm.Cond.methodLink "Branchwork" (223 : Nat) ({ cls := "java/lang/Integer", name := "bitCount", desc := "(I)I" } : Jvm.MethodName)) ∈ jw_T := jw_mem 731 (by decide +kernel) (by decide +kernel)
theorem jq_732 : (Jvm.Cond.methodLink "Branchwork" (134 : Nat) ({ cls := "Branchwork$Tree", name := "countFiles", desc := "()I" } : Jvm.MethodName)) ∈ jw_T := jw_mem 732 (by decide +kernel) (by decide +kernel)
theorem jq_733 : (Jvm.Cond.instanceMethod ({ cls := "Branchwork$Tree", name := "countFiles", desc := "()I" } : Jvm.MethodName)) ∈ jw_T := jw_mem 733 (by decide +kernel) (by decide +kernel)
theorem jq_734 : (Jvm.Cond.selects "Branchwork$Tree" ({ cls := "Branchwork$Tree", name := "countFiles", desc := "()I" } : Jvm.MethodName) ({ cls := "Branchwork$Tree", name := "countFiles", desc := "()I" } : Jvm.MethodName)) ∈ jw_T := jw_mem 734 (by decide +kernel) (by decide +kernel)
theorem jq_735 : (Jvm.Cond.code ({ cls := "Branchwork$Tree", name := "countFiles", desc := "()I" } : Jvm.MethodName) prog_9_method_4_code (3 : Nat) (Option.some Jvm.ClassFile.FieldType.int)) ∈ jw_T := jw_mem 735 (by decide +kernel) (by decide +kernel)
theorem jq_736 : (Jvm.Cond.methodLink "Branchwork$Tree" (30 : Nat) ({ cls := "Branchwork$Tree", name := "has", desc := "(I)Z" } : Jvm.MethodName)) ∈ jw_T := jw_mem 736 (by decide +kernel) (by decide +kernel)
theorem jq_737 : (Jvm.Cond.methodLink "Branchwork" (229 : Nat) ({ cls := "Branchwork$History", name := "countTrees", desc := "(I)I" } : Jvm.MethodName)) ∈ jw_T := jw_mem 737 (by decide +kernel) (by decide +kernel)
theorem jq_738 : (Jvm.Cond.methodLink "Branchwork" (232 : Nat) ({ cls := "Branchwork$History", name := "countContents", desc := "(I)I" } : Jvm.MethodName)) ∈ jw_T := jw_mem 738 (by decide +kernel) (by decide +kernel)
theorem jq_740 : (Jvm.Cond.methodLink "BranchworkLaw" (48 : Nat) ({ cls := "Branchwork", name := "now", desc := "(I)I" } : Jvm.MethodName)) ∈ jw_T := jw_mem 740 (by decide +kernel) (by decide +kernel)
theorem jq_741 : (Jvm.Cond.instanceMethod ({ cls := "Branchwork", name := "now", desc := "(I)I" } : Jvm.MethodName)) ∈ jw_T := jw_mem 741 (by decide +kernel) (by decide +kernel)
theorem jq_742 : (Jvm.Cond.selects "Branchwork" ({ cls := "Branchwork", name := "now", desc := "(I)I" } : Jvm.MethodName) ({ cls := "Branchwork", name := "now", desc := "(I)I" } : Jvm.MethodName)) ∈ jw_T := jw_mem 742 (by decide +kernel) (by decide +kernel)
theorem jq_743 : (Jvm.Cond.code ({ cls := "Branchwork", name := "now", desc := "(I)I" } : Jvm.MethodName) prog_1_method_15_code (2 : Nat) (Option.some Jvm.ClassFile.FieldType.int)) ∈ jw_T := jw_mem 743 (by decide +kernel) (by decide +kernel)
theorem jq_745 : (Jvm.Cond.methodLink "BranchworkLaw" (51 : Nat) ({ cls := "Branchwork", name := "at", desc := "(I)I" } : Jvm.MethodName)) ∈ jw_T := jw_mem 745 (by decide +kernel) (by decide +kernel)
theorem jq_746 : (Jvm.Cond.instanceMethod ({ cls := "Branchwork", name := "at", desc := "(I)I" } : Jvm.MethodName)) ∈ jw_T := jw_mem 746 (by decide +kernel) (by decide +kernel)
theorem jq_747 : (Jvm.Cond.selects "Branchwork" ({ cls := "Branchwork", name := "at", desc := "(I)I" } : Jvm.MethodName) ({ cls := "Branchwork", name := "at", desc := "(I)I" } : Jvm.MethodName)) ∈ jw_T := jw_mem 747 (by decide +kernel) (by decide +kernel)
theorem jq_748 : (Jvm.Cond.code ({ cls := "Branchwork", name := "at", desc := "(I)I" } : Jvm.MethodName) prog_1_method_16_code (2 : Nat) (Option.some Jvm.ClassFile.FieldType.int)) ∈ jw_T := jw_mem 748 (by decide +kernel) (by decide +kernel)
theorem jq_749 : (Jvm.Cond.methodLink "BranchworkLaw" (80 : Nat) ({ cls := "Branchwork", name := "ofCommit", desc := "(II)I" } : Jvm.MethodName)) ∈ jw_T := jw_mem 749 (by decide +kernel) (by decide +kernel)
theorem jq_750 : (Jvm.Cond.instanceMethod ({ cls := "Branchwork", name := "ofCommit", desc := "(II)I" } : Jvm.MethodName)) ∈ jw_T := jw_mem 750 (by decide +kernel) (by decide +kernel)
theorem jq_751 : (Jvm.Cond.selects "Branchwork" ({ cls := "Branchwork", name := "ofCommit", desc := "(II)I" } : Jvm.MethodName) ({ cls := "Branchwork", name := "ofCommit", desc := "(II)I" } : Jvm.MethodName)) ∈ jw_T := jw_mem 751 (by decide +kernel) (by decide +kernel)
theorem jq_752 : (Jvm.Cond.code ({ cls := "Branchwork", name := "ofCommit", desc := "(II)I" } : Jvm.MethodName) prog_1_method_17_code (3 : Nat) (Option.some Jvm.ClassFile.FieldType.int)) ∈ jw_T := jw_mem 752 (by decide +kernel) (by decide +kernel)
theorem jq_753 : (Jvm.Cond.methodLink "Branchwork" (180 : Nat) ({ cls := "Branchwork", name := "requireCommit", desc := "(I)V" } : Jvm.MethodName)) ∈ jw_T := jw_mem 753 (by decide +kernel) (by decide +kernel)
theorem jq_755 : (Jvm.Cond.instanceMethod ({ cls := "Branchwork", name := "requireCommit", desc := "(I)V" } : Jvm.MethodName)) ∈ jw_T := jw_mem 755 (by decide +kernel) (by decide +kernel)
theorem jq_756 : (Jvm.Cond.code ({ cls := "Branchwork", name := "requireCommit", desc := "(I)V" } : Jvm.MethodName) prog_1_method_42_code (2 : Nat) (Option.none : Option Jvm.ClassFile.FieldType)) ∈ jw_T := jw_mem 756 (by decide +kernel) (by decide +kernel)
theorem jq_757 : (Jvm.Cond.methodLink "Branchwork" (323 : Nat) ({ cls := "Branchwork$History", name := "holds", desc := "(I)Z" } : Jvm.MethodName)) ∈ jw_T := jw_mem 757 (by decide +kernel) (by decide +kernel)
theorem jq_758 : (Jvm.Cond.instanceMethod ({ cls := "Branchwork$History", name := "holds", desc := "(I)Z" } : Jvm.MethodName)) ∈ jw_T := jw_mem 758 (by decide +kernel) (by decide +kernel)
theorem jq_759 : (Jvm.Cond.selects "Branchwork$History" ({ cls := "Branchwork$History", name := "holds", desc := "(I)Z" } : Jvm.MethodName) ({ cls := "Branchwork$History", name := "holds", desc := "(I)Z" } : Jvm.MethodName)) ∈ jw_T := jw_mem 759 (by decide +kernel) (by decide +kernel)
theorem jq_760 : (Jvm.Cond.code ({ cls := "Branchwork$History", name := "holds", desc := "(I)Z" } : Jvm.MethodName) prog_5_method_6_code (2 : Nat) (Option.some Jvm.ClassFile.FieldType.boolean)) ∈ jw_T := jw_mem 760 (by decide +kernel) (by decide +kernel)
theorem jq_762 : (Jvm.Cond.methodLink "Branchwork" (239 : Nat) ({ cls := "Branchwork$History", name := "firstParent", desc := "(I)I" } : Jvm.MethodName)) ∈ jw_T := jw_mem 762 (by decide +kernel) (by decide +kernel)
theorem jq_763 : (Jvm.Cond.instanceMethod ({ cls := "Branchwork$History", name := "firstParent", desc := "(I)I" } : Jvm.MethodName)) ∈ jw_T := jw_mem 763 (by decide +kernel) (by decide +kernel)
theorem jq_764 : (Jvm.Cond.selects "Branchwork$History" ({ cls := "Branchwork$History", name := "firstParent", desc := "(I)I" } : Jvm.MethodName) ({ cls := "Branchwork$History", name := "firstParent", desc := "(I)I" } : Jvm.MethodName)) ∈ jw_T := jw_mem 764 (by decide +kernel) (by decide +kernel)
theorem jq_765 : (Jvm.Cond.code ({ cls := "Branchwork$History", name := "firstParent", desc := "(I)I" } : Jvm.MethodName) prog_5_method_10_code (2 : Nat) (Option.some Jvm.ClassFile.FieldType.int)) ∈ jw_T := jw_mem 765 (by decide +kernel) (by decide +kernel)
theorem jq_766 : (Jvm.Cond.methodLink "Branchwork" (242 : Nat) ({ cls := "Branchwork$History", name := "secondParent", desc := "(I)I" } : Jvm.MethodName)) ∈ jw_T := jw_mem 766 (by decide +kernel) (by decide +kernel)
theorem jq_767 : (Jvm.Cond.instanceMethod ({ cls := "Branchwork$History", name := "secondParent", desc := "(I)I" } : Jvm.MethodName)) ∈ jw_T := jw_mem 767 (by decide +kernel) (by decide +kernel)
theorem jq_768 : (Jvm.Cond.selects "Branchwork$History" ({ cls := "Branchwork$History", name := "secondParent", desc := "(I)I" } : Jvm.MethodName) ({ cls := "Branchwork$History", name := "secondParent", desc := "(I)I" } : Jvm.MethodName)) ∈ jw_T := jw_mem 768 (by decide +kernel) (by decide +kernel)
theorem jq_769 : (Jvm.Cond.code ({ cls := "Branchwork$History", name := "secondParent", desc := "(I)I" } : Jvm.MethodName) prog_5_method_11_code (2 : Nat) (Option.some Jvm.ClassFile.FieldType.int)) ∈ jw_T := jw_mem 769 (by decide +kernel) (by decide +kernel)
theorem jq_770 : (Jvm.Cond.methodLink "Branchwork" (245 : Nat) ({ cls := "Branchwork$History", name := "noteOf", desc := "(I)I" } : Jvm.MethodName)) ∈ jw_T := jw_mem 770 (by decide +kernel) (by decide +kernel)
theorem jq_771 : (Jvm.Cond.instanceMethod ({ cls := "Branchwork$History", name := "noteOf", desc := "(I)I" } : Jvm.MethodName)) ∈ jw_T := jw_mem 771 (by decide +kernel) (by decide +kernel)
theorem jq_772 : (Jvm.Cond.selects "Branchwork$History" ({ cls := "Branchwork$History", name := "noteOf", desc := "(I)I" } : Jvm.MethodName) ({ cls := "Branchwork$History", name := "noteOf", desc := "(I)I" } : Jvm.MethodName)) ∈ jw_T := jw_mem 772 (by decide +kernel) (by decide +kernel)
theorem jq_773 : (Jvm.Cond.code ({ cls := "Branchwork$History", name := "noteOf", desc := "(I)I" } : Jvm.MethodName) prog_5_method_9_code (2 : Nat) (Option.some Jvm.ClassFile.FieldType.int)) ∈ jw_T := jw_mem 773 (by decide +kernel) (by decide +kernel)
theorem jq_774 : (Jvm.Cond.methodLink "Branchwork" (248 : Nat) ({ cls := "Branchwork$History", name := "ancestorsOf", desc := "(I)I" } : Jvm.MethodName)) ∈ jw_T := jw_mem 774 (by decide +kernel) (by decide +kernel)
theorem jq_775 : (Jvm.Cond.methodLink "Branchwork" (251 : Nat) ({ cls := "Branchwork$History", name := "isIn", desc := "(II)Z" } : Jvm.MethodName)) ∈ jw_T := jw_mem 775 (by decide +kernel) (by decide +kernel)
theorem jq_776 : (Jvm.Cond.methodLink "BranchworkLaw" (22 : Nat) ({ cls := "Branchwork", name := "size", desc := "(II)I" } : Jvm.MethodName)) ∈ jw_T := jw_mem 776 (by decide +kernel) (by decide +kernel)
theorem jq_777 : (Jvm.Cond.instanceMethod ({ cls := "Branchwork", name := "size", desc := "(II)I" } : Jvm.MethodName)) ∈ jw_T := jw_mem 777 (by decide +kernel) (by decide +kernel)
theorem jq_778 : (Jvm.Cond.selects "Branchwork" ({ cls := "Branchwork", name := "size", desc := "(II)I" } : Jvm.MethodName) ({ cls := "Branchwork", name := "size", desc := "(II)I" } : Jvm.MethodName)) ∈ jw_T := jw_mem 778 (by decide +kernel) (by decide +kernel)
theorem jq_779 : (Jvm.Cond.code ({ cls := "Branchwork", name := "size", desc := "(II)I" } : Jvm.MethodName) prog_1_method_19_code (4 : Nat) (Option.some Jvm.ClassFile.FieldType.int)) ∈ jw_T := jw_mem 779 (by decide +kernel) (by decide +kernel)
theorem jq_780 : (Jvm.Cond.methodLink "Branchwork" (255 : Nat) ({ cls := "Branchwork", name := "fileToShow", desc := "(II)LBranchwork$Content;" } : Jvm.MethodName)) ∈ jw_T := jw_mem 780 (by decide +kernel) (by decide +kernel)
theorem jq_782 : (Jvm.Cond.instanceMethod ({ cls := "Branchwork", name := "fileToShow", desc := "(II)LBranchwork$Content;" } : Jvm.MethodName)) ∈ jw_T := jw_mem 782 (by decide +kernel) (by decide +kernel)
theorem jq_783 : (Jvm.Cond.code ({ cls := "Branchwork", name := "fileToShow", desc := "(II)LBranchwork$Content;" } : Jvm.MethodName) prog_1_method_36_code (3 : Nat) (Option.some (Jvm.ClassFile.FieldType.object "Branchwork$Content"))) ∈ jw_T := jw_mem 783 (by decide +kernel) (by decide +kernel)
theorem jq_784 : (Jvm.Cond.methodLink "Branchwork" (259 : Nat) ({ cls := "Branchwork$Content", name := "exists", desc := "()Z" } : Jvm.MethodName)) ∈ jw_T := jw_mem 784 (by decide +kernel) (by decide +kernel)
theorem jq_785 : (Jvm.Cond.methodLink "BranchworkLaw" (70 : Nat) ({ cls := "Branchwork", name := "conflict", desc := "(II)I" } : Jvm.MethodName)) ∈ jw_T := jw_mem 785 (by decide +kernel) (by decide +kernel)
theorem jq_786 : (Jvm.Cond.instanceMethod ({ cls := "Branchwork", name := "conflict", desc := "(II)I" } : Jvm.MethodName)) ∈ jw_T := jw_mem 786 (by decide +kernel) (by decide +kernel)
theorem jq_787 : (Jvm.Cond.selects "Branchwork" ({ cls := "Branchwork", name := "conflict", desc := "(II)I" } : Jvm.MethodName) ({ cls := "Branchwork", name := "conflict", desc := "(II)I" } : Jvm.MethodName)) ∈ jw_T := jw_mem 787 (by decide +kernel) (by decide +kernel)
theorem jq_788 : (Jvm.Cond.code ({ cls := "Branchwork", name := "conflict", desc := "(II)I" } : Jvm.MethodName) prog_1_method_20_code (3 : Nat) (Option.some Jvm.ClassFile.FieldType.int)) ∈ jw_T := jw_mem 788 (by decide +kernel) (by decide +kernel)
theorem jq_789 : (Jvm.Cond.methodLink "Branchwork" (265 : Nat) ({ cls := "Branchwork$Conflicts", name := "codeOf", desc := "(I)I" } : Jvm.MethodName)) ∈ jw_T := jw_mem 789 (by decide +kernel) (by decide +kernel)
theorem jq_790 : (Jvm.Cond.methodLink "Branchwork" (268 : Nat) ({ cls := "Branchwork$Conflicts", name := "pathOf", desc := "(I)I" } : Jvm.MethodName)) ∈ jw_T := jw_mem 790 (by decide +kernel) (by decide +kernel)
theorem jq_792 : (Jvm.Cond.methodLink "BranchworkLaw" (64 : Nat) ({ cls := "Branchwork", name := "base", desc := "(II)I" } : Jvm.MethodName)) ∈ jw_T := jw_mem 792 (by decide +kernel) (by decide +kernel)
theorem jq_793 : (Jvm.Cond.instanceMethod ({ cls := "Branchwork", name := "base", desc := "(II)I" } : Jvm.MethodName)) ∈ jw_T := jw_mem 793 (by decide +kernel) (by decide +kernel)
theorem jq_794 : (Jvm.Cond.selects "Branchwork" ({ cls := "Branchwork", name := "base", desc := "(II)I" } : Jvm.MethodName) ({ cls := "Branchwork", name := "base", desc := "(II)I" } : Jvm.MethodName)) ∈ jw_T := jw_mem 794 (by decide +kernel) (by decide +kernel)
theorem jq_795 : (Jvm.Cond.code ({ cls := "Branchwork", name := "base", desc := "(II)I" } : Jvm.MethodName) prog_1_method_21_code (3 : Nat) (Option.some Jvm.ClassFile.FieldType.int)) ∈ jw_T := jw_mem 795 (by decide +kernel) (by decide +kernel)
theorem jq_796 : (Jvm.Cond.methodLink "BranchworkLaw" (83 : Nat) ({ cls := "Branchwork", name := "went", desc := "(III)I" } : Jvm.MethodName)) ∈ jw_T := jw_mem 796 (by decide +kernel) (by decide +kernel)
theorem jq_797 : (Jvm.Cond.instanceMethod ({ cls := "Branchwork", name := "went", desc := "(III)I" } : Jvm.MethodName)) ∈ jw_T := jw_mem 797 (by decide +kernel) (by decide +kernel)
theorem jq_798 : (Jvm.Cond.selects "Branchwork" ({ cls := "Branchwork", name := "went", desc := "(III)I" } : Jvm.MethodName) ({ cls := "Branchwork", name := "went", desc := "(III)I" } : Jvm.MethodName)) ∈ jw_T := jw_mem 798 (by decide +kernel) (by decide +kernel)
theorem jq_799 : (Jvm.Cond.code ({ cls := "Branchwork", name := "went", desc := "(III)I" } : Jvm.MethodName) prog_1_method_22_code (4 : Nat) (Option.some Jvm.ClassFile.FieldType.int)) ∈ jw_T := jw_mem 799 (by decide +kernel) (by decide +kernel)
theorem jq_800 : (Jvm.Cond.methodLink "Branchwork" (273 : Nat) ({ cls := "Branchwork$Renames", name := "trace", desc := "(LBranchwork$Tree;LBranchwork$Tree;)V" } : Jvm.MethodName)) ∈ jw_T := jw_mem 800 (by decide +kernel) (by decide +kernel)
theorem jq_801 : (Jvm.Cond.methodLink "Branchwork" (277 : Nat) ({ cls := "Branchwork$Renames", name := "fateOf", desc := "(I)I" } : Jvm.MethodName)) ∈ jw_T := jw_mem 801 (by decide +kernel) (by decide +kernel)
theorem jq_802 : (Jvm.Cond.methodLink "BranchworkLaw" (96 : Nat) ({ cls := "Branchwork", name := "changes", desc := "(III)I" } : Jvm.MethodName)) ∈ jw_T := jw_mem 802 (by decide +kernel) (by decide +kernel)
theorem jq_803 : (Jvm.Cond.instanceMethod ({ cls := "Branchwork", name := "changes", desc := "(III)I" } : Jvm.MethodName)) ∈ jw_T := jw_mem 803 (by decide +kernel) (by decide +kernel)
theorem jq_804 : (Jvm.Cond.selects "Branchwork" ({ cls := "Branchwork", name := "changes", desc := "(III)I" } : Jvm.MethodName) ({ cls := "Branchwork", name := "changes", desc := "(III)I" } : Jvm.MethodName)) ∈ jw_T := jw_mem 804 (by decide +kernel) (by decide +kernel)
theorem jq_805 : (Jvm.Cond.code ({ cls := "Branchwork", name := "changes", desc := "(III)I" } : Jvm.MethodName) prog_1_method_23_code (8 : Nat) (Option.some Jvm.ClassFile.FieldType.int)) ∈ jw_T := jw_mem 805 (by decide +kernel) (by decide +kernel)
theorem jq_807 : (Jvm.Cond.methodLink "Branchwork" (282 : Nat) ({ cls := "Branchwork", name := "kindOfChange", desc := "(LBranchwork$Tree;LBranchwork$Tree;I)I" } : Jvm.MethodName)) ∈ jw_T := jw_mem 807 (by decide +kernel) (by decide +kernel)
theorem jq_809 : (Jvm.Cond.instanceMethod ({ cls := "Branchwork", name := "kindOfChange", desc := "(LBranchwork$Tree;LBranchwork$Tree;I)I" } : Jvm.MethodName)) ∈ jw_T := jw_mem 809 (by decide +kernel) (by decide +kernel)
theorem jq_810 : (Jvm.Cond.code ({ cls := "Branchwork", name := "kindOfChange", desc := "(LBranchwork$Tree;LBranchwork$Tree;I)I" } : Jvm.MethodName) prog_1_method_37_code (4 : Nat) (Option.some Jvm.ClassFile.FieldType.int)) ∈ jw_T := jw_mem 810 (by decide +kernel) (by decide +kernel)
theorem jq_811 : (Jvm.Cond.methodLink "Branchwork" (144 : Nat) ({ cls := "Branchwork$Content", name := "sameAs", desc := "(LBranchwork$Content;)Z" } : Jvm.MethodName)) ∈ jw_T := jw_mem 811 (by decide +kernel) (by decide +kernel)
theorem jq_812 : (Jvm.Cond.methodLink "Branchwork" (343 : Nat) ({ cls := "Branchwork$Renames", name := "sourceOf", desc := "(I)I" } : Jvm.MethodName)) ∈ jw_T := jw_mem 812 (by decide +kernel) (by decide +kernel)
theorem jq_813 : (Jvm.Cond.methodLink "Branchwork" (286 : Nat) ({ cls := "Branchwork$Renames", name := "howMany", desc := "()I" } : Jvm.MethodName)) ∈ jw_T := jw_mem 813 (by decide +kernel) (by decide +kernel)
theorem jq_814 : (Jvm.Cond.instanceMethod ({ cls := "Branchwork$Renames", name := "howMany", desc := "()I" } : Jvm.MethodName)) ∈ jw_T := jw_mem 814 (by decide +kernel) (by decide +kernel)
theorem jq_815 : (Jvm.Cond.selects "Branchwork$Renames" ({ cls := "Branchwork$Renames", name := "howMany", desc := "()I" } : Jvm.MethodName) ({ cls := "Branchwork$Renames", name := "howMany", desc := "()I" } : Jvm.MethodName)) ∈ jw_T := jw_mem 815 (by decide +kernel) (by decide +kernel)
theorem jq_816 : (Jvm.Cond.code ({ cls := "Branchwork$Renames", name := "howMany", desc := "()I" } : Jvm.MethodName) prog_8_method_5_code (1 : Nat) (Option.some Jvm.ClassFile.FieldType.int)) ∈ jw_T := jw_mem 816 (by decide +kernel) (by decide +kernel)
theorem jq_817 : (Jvm.Cond.methodLink "BranchworkLaw" (86 : Nat) ({ cls := "Branchwork", name := "nearness", desc := "(IIII)I" } : Jvm.MethodName)) ∈ jw_T := jw_mem 817 (by decide +kernel) (by decide +kernel)
theorem jq_818 : (Jvm.Cond.instanceMethod ({ cls := "Branchwork", name := "nearness", desc := "(IIII)I" } : Jvm.MethodName)) ∈ jw_T := jw_mem 818 (by decide +kernel) (by decide +kernel)
theorem jq_819 : (Jvm.Cond.selects "Branchwork" ({ cls := "Branchwork", name := "nearness", desc := "(IIII)I" } : Jvm.MethodName) ({ cls := "Branchwork", name := "nearness", desc := "(IIII)I" } : Jvm.MethodName)) ∈ jw_T := jw_mem 819 (by decide +kernel) (by decide +kernel)
theorem jq_820 : (Jvm.Cond.code ({ cls := "Branchwork", name := "nearness", desc := "(IIII)I" } : Jvm.MethodName) prog_1_method_24_code (5 : Nat) (Option.some Jvm.ClassFile.FieldType.int)) ∈ jw_T := jw_mem 820 (by decide +kernel) (by decide +kernel)
theorem jq_821 : (Jvm.Cond.methodLink "Branchwork" (287 : Nat) ({ cls := "Branchwork$Match", name := "nearnessOf", desc := "(LBranchwork$Content;LBranchwork$Content;)I" } : Jvm.MethodName)) ∈ jw_T := jw_mem 821 (by decide +kernel) (by decide +kernel)
theorem jq_822 : (Jvm.Cond.methodLink "BranchworkLaw" (90 : Nat) ({ cls := "Branchwork", name := "origin", desc := "(III)I" } : Jvm.MethodName)) ∈ jw_T := jw_mem 822 (by decide +kernel) (by decide +kernel)
theorem jq_823 : (Jvm.Cond.instanceMethod ({ cls := "Branchwork", name := "origin", desc := "(III)I" } : Jvm.MethodName)) ∈ jw_T := jw_mem 823 (by decide +kernel) (by decide +kernel)
theorem jq_824 : (Jvm.Cond.selects "Branchwork" ({ cls := "Branchwork", name := "origin", desc := "(III)I" } : Jvm.MethodName) ({ cls := "Branchwork", name := "origin", desc := "(III)I" } : Jvm.MethodName)) ∈ jw_T := jw_mem 824 (by decide +kernel) (by decide +kernel)
theorem jq_825 : (Jvm.Cond.code ({ cls := "Branchwork", name := "origin", desc := "(III)I" } : Jvm.MethodName) prog_1_method_25_code (9 : Nat) (Option.some Jvm.ClassFile.FieldType.int)) ∈ jw_T := jw_mem 825 (by decide +kernel) (by decide +kernel)
theorem jq_826 : (Jvm.Cond.methodLink "Branchwork" (114 : Nat) ({ cls := "Branchwork", name := "requirePlace", desc := "(LBranchwork$Content;I)V" } : Jvm.MethodName)) ∈ jw_T := jw_mem 826 (by decide +kernel) (by decide +kernel)
theorem jq_827 : (Jvm.Cond.static ({ cls := "Branchwork", name := "requirePlace", desc := "(LBranchwork$Content;I)V" } : Jvm.MethodName)) ∈ jw_T := jw_mem 827 (by decide +kernel) (by decide +kernel)
theorem jq_828 : (Jvm.Cond.code ({ cls := "Branchwork", name := "requirePlace", desc := "(LBranchwork$Content;I)V" } : Jvm.MethodName) prog_1_method_41_code (2 : Nat) (Option.none : Option Jvm.ClassFile.FieldType)) ∈ jw_T := jw_mem 828 (by decide +kernel) (by decide +kernel)
theorem jq_829 : (Jvm.Cond.methodLink "Branchwork" (357 : Nat) ({ cls := "Branchwork$Content", name := "holds", desc := "(I)Z" } : Jvm.MethodName)) ∈ jw_T := jw_mem 829 (by decide +kernel) (by decide +kernel)
theorem jq_830 : (Jvm.Cond.instanceMethod ({ cls := "Branchwork$Content", name := "holds", desc := "(I)Z" } : Jvm.MethodName)) ∈ jw_T := jw_mem 830 (by decide +kernel) (by decide +kernel)
theorem jq_831 : (Jvm.Cond.selects "Branchwork$Content" ({ cls := "Branchwork$Content", name := "holds", desc := "(I)Z" } : Jvm.MethodName) ({ cls := "Branchwork$Content", name := "holds", desc := "(I)Z" } : Jvm.MethodName)) ∈ jw_T := jw_mem 831 (by decide +kernel) (by decide +kernel)
theorem jq_832 : (Jvm.Cond.code ({ cls := "Branchwork$Content", name := "holds", desc := "(I)Z" } : Jvm.MethodName) prog_4_method_5_code (2 : Nat) (Option.some Jvm.ClassFile.FieldType.boolean)) ∈ jw_T := jw_mem 832 (by decide +kernel) (by decide +kernel)
theorem jq_833 : (Jvm.Cond.methodLink "Branchwork" (291 : Nat) ({ cls := "Branchwork", name := "spotInParent", desc := "(III)I" } : Jvm.MethodName)) ∈ jw_T := jw_mem 833 (by decide +kernel) (by decide +kernel)
theorem jq_835 : (Jvm.Cond.instanceMethod ({ cls := "Branchwork", name := "spotInParent", desc := "(III)I" } : Jvm.MethodName)) ∈ jw_T := jw_mem 835 (by decide +kernel) (by decide +kernel)
theorem jq_836 : (Jvm.Cond.code ({ cls := "Branchwork", name := "spotInParent", desc := "(III)I" } : Jvm.MethodName) prog_1_method_38_code (9 : Nat) (Option.some Jvm.ClassFile.FieldType.int)) ∈ jw_T := jw_mem 836 (by decide +kernel) (by decide +kernel)
theorem jq_837 : (Jvm.Cond.methodLink "Branchwork" (346 : Nat) ({ cls := "Branchwork$Match", name := "pairUp", desc := "(LBranchwork$Content;LBranchwork$Content;)V" } : Jvm.MethodName)) ∈ jw_T := jw_mem 837 (by decide +kernel) (by decide +kernel)
theorem jq_838 : (Jvm.Cond.methodLink "Branchwork" (350 : Nat) ({ cls := "Branchwork$Match", name := "partnerInA", desc := "(I)I" } : Jvm.MethodName)) ∈ jw_T := jw_mem 838 (by decide +kernel) (by decide +kernel)
theorem jq_839 : (Jvm.Cond.instanceMethod ({ cls := "Branchwork$Match", name := "partnerInA", desc := "(I)I" } : Jvm.MethodName)) ∈ jw_T := jw_mem 839 (by decide +kernel) (by decide +kernel)
theorem jq_840 : (Jvm.Cond.selects "Branchwork$Match" ({ cls := "Branchwork$Match", name := "partnerInA", desc := "(I)I" } : Jvm.MethodName) ({ cls := "Branchwork$Match", name := "partnerInA", desc := "(I)I" } : Jvm.MethodName)) ∈ jw_T := jw_mem 840 (by decide +kernel) (by decide +kernel)
theorem jq_841 : (Jvm.Cond.code ({ cls := "Branchwork$Match", name := "partnerInA", desc := "(I)I" } : Jvm.MethodName) prog_6_method_3_code (2 : Nat) (Option.some Jvm.ClassFile.FieldType.int)) ∈ jw_T := jw_mem 841 (by decide +kernel) (by decide +kernel)
theorem jq_842 : (Jvm.Cond.methodLink "BranchworkLaw" (61 : Nat) ({ cls := "Branchwork", name := "conflictsOf", desc := "(II)I" } : Jvm.MethodName)) ∈ jw_T := jw_mem 842 (by decide +kernel) (by decide +kernel)
theorem jq_843 : (Jvm.Cond.instanceMethod ({ cls := "Branchwork", name := "conflictsOf", desc := "(II)I" } : Jvm.MethodName)) ∈ jw_T := jw_mem 843 (by decide +kernel) (by decide +kernel)
theorem jq_844 : (Jvm.Cond.selects "Branchwork" ({ cls := "Branchwork", name := "conflictsOf", desc := "(II)I" } : Jvm.MethodName) ({ cls := "Branchwork", name := "conflictsOf", desc := "(II)I" } : Jvm.MethodName)) ∈ jw_T := jw_mem 844 (by decide +kernel) (by decide +kernel)
theorem jq_845 : (Jvm.Cond.code ({ cls := "Branchwork", name := "conflictsOf", desc := "(II)I" } : Jvm.MethodName) prog_1_method_26_code (4 : Nat) (Option.some Jvm.ClassFile.FieldType.int)) ∈ jw_T := jw_mem 845 (by decide +kernel) (by decide +kernel)
theorem jq_846 : (Jvm.Cond.methodLink "BranchworkLaw" (103 : Nat) ({ cls := "Branchwork", name := "garbage", desc := "()I" } : Jvm.MethodName)) ∈ jw_T := jw_mem 846 (by decide +kernel) (by decide +kernel)
theorem jq_847 : (Jvm.Cond.methodLink "BranchworkLaw" (76 : Nat) ({ cls := "Branchwork", name := "digest", desc := "()J" } : Jvm.MethodName)) ∈ jw_T := jw_mem 847 (by decide +kernel) (by decide +kernel)
theorem jq_848 : (Jvm.Cond.instanceMethod ({ cls := "Branchwork", name := "digest", desc := "()J" } : Jvm.MethodName)) ∈ jw_T := jw_mem 848 (by decide +kernel) (by decide +kernel)
theorem jq_849 : (Jvm.Cond.selects "Branchwork" ({ cls := "Branchwork", name := "digest", desc := "()J" } : Jvm.MethodName) ({ cls := "Branchwork", name := "digest", desc := "()J" } : Jvm.MethodName)) ∈ jw_T := jw_mem 849 (by decide +kernel) (by decide +kernel)
theorem jq_850 : (Jvm.Cond.code ({ cls := "Branchwork", name := "digest", desc := "()J" } : Jvm.MethodName) prog_1_method_29_code (4 : Nat) (Option.some Jvm.ClassFile.FieldType.long)) ∈ jw_T := jw_mem 850 (by decide +kernel) (by decide +kernel)
theorem jq_851 : (Jvm.Cond.constantLong "Branchwork" (301 : Nat) (58087 : Int64)) ∈ jw_T := jw_mem 851 (by decide +kernel) (by decide +kernel)
theorem jq_852 : (Jvm.Cond.methodLink "Branchwork" (303 : Nat) ({ cls := "Branchwork", name := "many", desc := "(I)I" } : Jvm.MethodName)) ∈ jw_T := jw_mem 852 (by decide +kernel) (by decide +kernel)
theorem jq_853 : (Jvm.Cond.methodLink "Branchwork" (306 : Nat) ({ cls := "Branchwork", name := "fold", desc := "(JI)J" } : Jvm.MethodName)) ∈ jw_T := jw_mem 853 (by decide +kernel) (by decide +kernel)
theorem jq_854 : (Jvm.Cond.static ({ cls := "Branchwork", name := "fold", desc := "(JI)J" } : Jvm.MethodName)) ∈ jw_T := jw_mem 854 (by decide +kernel) (by decide +kernel)
theorem jq_855 : (Jvm.Cond.code ({ cls := "Branchwork", name := "fold", desc := "(JI)J" } : Jvm.MethodName) prog_1_method_30_code (3 : Nat) (Option.some Jvm.ClassFile.FieldType.long)) ∈ jw_T := jw_mem 855 (by decide +kernel) (by decide +kernel)
theorem jq_856 : (Jvm.Cond.constantLong "Branchwork" (329 : Nat) (31 : Int64)) ∈ jw_T := jw_mem 856 (by decide +kernel) (by decide +kernel)
theorem jq_857 : (Jvm.Cond.methodLink "Branchwork" (310 : Nat) ({ cls := "Branchwork", name := "now", desc := "(I)I" } : Jvm.MethodName)) ∈ jw_T := jw_mem 857 (by decide +kernel) (by decide +kernel)
theorem jq_858 : (Jvm.Cond.methodLink "Branchwork" (313 : Nat) ({ cls := "Branchwork", name := "at", desc := "(I)I" } : Jvm.MethodName)) ∈ jw_T := jw_mem 858 (by decide +kernel) (by decide +kernel)
theorem jq_859 : (Jvm.Cond.methodLink "Branchwork" (316 : Nat) ({ cls := "Branchwork", name := "status", desc := "(I)I" } : Jvm.MethodName)) ∈ jw_T := jw_mem 859 (by decide +kernel) (by decide +kernel)
theorem jq_860 : (Jvm.Cond.instanceMethod ({ cls := "Branchwork", name := "status", desc := "(I)I" } : Jvm.MethodName)) ∈ jw_T := jw_mem 860 (by decide +kernel) (by decide +kernel)
theorem jq_861 : (Jvm.Cond.selects "Branchwork" ({ cls := "Branchwork", name := "status", desc := "(I)I" } : Jvm.MethodName) ({ cls := "Branchwork", name := "status", desc := "(I)I" } : Jvm.MethodName)) ∈ jw_T := jw_mem 861 (by decide +kernel) (by decide +kernel)
theorem jq_862 : (Jvm.Cond.code ({ cls := "Branchwork", name := "status", desc := "(I)I" } : Jvm.MethodName) prog_1_method_6_code (3 : Nat) (Option.some Jvm.ClassFile.FieldType.int)) ∈ jw_T := jw_mem 862 (by decide +kernel) (by decide +kernel)
theorem jq_863 : (Jvm.Cond.methodLink "Branchwork" (319 : Nat) ({ cls := "Branchwork", name := "foldTree", desc := "(JLBranchwork$Tree;)J" } : Jvm.MethodName)) ∈ jw_T := jw_mem 863 (by decide +kernel) (by decide +kernel)
theorem jq_864 : (Jvm.Cond.static ({ cls := "Branchwork", name := "foldTree", desc := "(JLBranchwork$Tree;)J" } : Jvm.MethodName)) ∈ jw_T := jw_mem 864 (by decide +kernel) (by decide +kernel)
theorem jq_865 : (Jvm.Cond.code ({ cls := "Branchwork", name := "foldTree", desc := "(JLBranchwork$Tree;)J" } : Jvm.MethodName) prog_1_method_31_code (8 : Nat) (Option.some Jvm.ClassFile.FieldType.long)) ∈ jw_T := jw_mem 865 (by decide +kernel) (by decide +kernel)
theorem jq_866 : (Jvm.Cond.methodLink "Branchwork" (262 : Nat) ({ cls := "Branchwork$Content", name := "lineAt", desc := "(I)I" } : Jvm.MethodName)) ∈ jw_T := jw_mem 866 (by decide +kernel) (by decide +kernel)
theorem jq_867 : (Jvm.Cond.methodLink "Branchwork" (326 : Nat) ({ cls := "Branchwork", name := "foldCommit", desc := "(JI)J" } : Jvm.MethodName)) ∈ jw_T := jw_mem 867 (by decide +kernel) (by decide +kernel)
theorem jq_869 : (Jvm.Cond.instanceMethod ({ cls := "Branchwork", name := "foldCommit", desc := "(JI)J" } : Jvm.MethodName)) ∈ jw_T := jw_mem 869 (by decide +kernel) (by decide +kernel)
theorem jq_870 : (Jvm.Cond.code ({ cls := "Branchwork", name := "foldCommit", desc := "(JI)J" } : Jvm.MethodName) prog_1_method_32_code (7 : Nat) (Option.some Jvm.ClassFile.FieldType.long)) ∈ jw_T := jw_mem 870 (by decide +kernel) (by decide +kernel)
theorem jq_871 : (Jvm.Cond.methodLink "Branchwork" (331 : Nat) ({ cls := "Branchwork", name := "ofCommit", desc := "(II)I" } : Jvm.MethodName)) ∈ jw_T := jw_mem 871 (by decide +kernel) (by decide +kernel)
theorem jq_872 : (Jvm.Cond.methodLink "BranchworkLaw" (18 : Nat) ({ cls := "BranchworkLaw", name := "below", desc := "(II)I" } : Jvm.MethodName)) ∈ jw_T := jw_mem 872 (by decide +kernel) (by decide +kernel)
theorem jq_873 : (Jvm.Cond.static ({ cls := "BranchworkLaw", name := "below", desc := "(II)I" } : Jvm.MethodName)) ∈ jw_T := jw_mem 873 (by decide +kernel) (by decide +kernel)
theorem jq_874 : (Jvm.Cond.code ({ cls := "BranchworkLaw", name := "below", desc := "(II)I" } : Jvm.MethodName) method_2_code (2 : Nat) (Option.some Jvm.ClassFile.FieldType.int)) ∈ jw_T := jw_mem 874 (by decide +kernel) (by decide +kernel)
theorem jq_875 : (Jvm.Cond.constant "BranchworkLaw" (7 : Nat) (2147483647 : Int32)) ∈ jw_T := jw_mem 875 (by decide +kernel) (by decide +kernel)
theorem jq_876 : (Jvm.Cond.methodLink "BranchworkLaw" (12 : Nat) ({ cls := "BranchworkLaw", name := "cell", desc := "([II)I" } : Jvm.MethodName)) ∈ jw_T := jw_mem 876 (by decide +kernel) (by decide +kernel)
theorem jq_877 : (Jvm.Cond.static ({ cls := "BranchworkLaw", name := "cell", desc := "([II)I" } : Jvm.MethodName)) ∈ jw_T := jw_mem 877 (by decide +kernel) (by decide +kernel)
theorem jq_878 : (Jvm.Cond.code ({ cls := "BranchworkLaw", name := "cell", desc := "([II)I" } : Jvm.MethodName) method_3_code (2 : Nat) (Option.some Jvm.ClassFile.FieldType.int)) ∈ jw_T := jw_mem 878 (by decide +kernel) (by decide +kernel)
theorem jq_879 : (Jvm.Cond.constant "BranchworkLaw" (8 : Nat) (790386105 : Int32)) ∈ jw_T := jw_mem 879 (by decide +kernel) (by decide +kernel)
theorem jq_880 : (Jvm.Cond.methodLink "BranchworkLaw" (99 : Nat) ({ cls := "BranchworkLaw", name := "countRenamed", desc := "(LBranchwork;II)I" } : Jvm.MethodName)) ∈ jw_T := jw_mem 880 (by decide +kernel) (by decide +kernel)
theorem jq_881 : (Jvm.Cond.static ({ cls := "BranchworkLaw", name := "countRenamed", desc := "(LBranchwork;II)I" } : Jvm.MethodName)) ∈ jw_T := jw_mem 881 (by decide +kernel) (by decide +kernel)
theorem jq_882 : (Jvm.Cond.code ({ cls := "BranchworkLaw", name := "countRenamed", desc := "(LBranchwork;II)I" } : Jvm.MethodName) method_5_code (5 : Nat) (Option.some Jvm.ClassFile.FieldType.int)) ∈ jw_T := jw_mem 882 (by decide +kernel) (by decide +kernel)
theorem jq_883 : (Jvm.Cond.methodLink "BranchworkLaw" (37 : Nat) ({ cls := "BranchworkLaw", name := "isClean", desc := "(LBranchwork;)Z" } : Jvm.MethodName)) ∈ jw_T := jw_mem 883 (by decide +kernel) (by decide +kernel)
theorem jq_884 : (Jvm.Cond.static ({ cls := "BranchworkLaw", name := "isClean", desc := "(LBranchwork;)Z" } : Jvm.MethodName)) ∈ jw_T := jw_mem 884 (by decide +kernel) (by decide +kernel)
theorem jq_885 : (Jvm.Cond.code ({ cls := "BranchworkLaw", name := "isClean", desc := "(LBranchwork;)Z" } : Jvm.MethodName) method_6_code (2 : Nat) (Option.some Jvm.ClassFile.FieldType.boolean)) ∈ jw_T := jw_mem 885 (by decide +kernel) (by decide +kernel)
theorem jq_886 : (Jvm.Cond.methodLink "BranchworkLaw" (109 : Nat) ({ cls := "Branchwork", name := "status", desc := "(I)I" } : Jvm.MethodName)) ∈ jw_T := jw_mem 886 (by decide +kernel) (by decide +kernel)
theorem jq_887 : (Jvm.Cond.methodLink "BranchworkLaw" (25 : Nat) ({ cls := "java/lang/Math", name := "max", desc := "(II)I" } : Jvm.MethodName)) ∈ jw_T := jw_mem 887 (by decide +kernel) (by decide +kernel)
theorem jq_888 : (Jvm.Cond.methodLink "BranchworkLaw" (93 : Nat) ({ cls := "java/lang/Math", name := "min", desc := "(II)I" } : Jvm.MethodName)) ∈ jw_T := jw_mem 888 (by decide +kernel) (by decide +kernel)
theorem jw_oi1 : Cond.instanceMethod objectInit ∈ jw_T := jq_47
theorem jw_oi2 : Cond.code objectInit ⟨#[0xb1]⟩ 1 none ∈ jw_T := jq_48
def mi_Branchwork_init : MethodName × ByteArray × Nat × Option FieldType := (⟨"Branchwork", "<init>", "()V"⟩, prog_1_method_1_code, 1, (Option.none : Option Jvm.ClassFile.FieldType))
def mi_Object_init : MethodName × ByteArray × Nat × Option FieldType := (⟨"java/lang/Object", "<init>", "()V"⟩, object_method_1_code, 1, (Option.none : Option Jvm.ClassFile.FieldType))
def mi_Tree_init : MethodName × ByteArray × Nat × Option FieldType := (⟨"Branchwork$Tree", "<init>", "()V"⟩, prog_9_method_1_code, 2, (Option.none : Option Jvm.ClassFile.FieldType))
def mi_Content_init : MethodName × ByteArray × Nat × Option FieldType := (⟨"Branchwork$Content", "<init>", "()V"⟩, prog_4_method_1_code, 1, (Option.none : Option Jvm.ClassFile.FieldType))
def mi_History_init : MethodName × ByteArray × Nat × Option FieldType := (⟨"Branchwork$History", "<init>", "()V"⟩, prog_5_method_1_code, 2, (Option.none : Option Jvm.ClassFile.FieldType))
def mi_Merger_init : MethodName × ByteArray × Nat × Option FieldType := (⟨"Branchwork$Merger", "<init>", "()V"⟩, prog_7_method_1_code, 1, (Option.none : Option Jvm.ClassFile.FieldType))
def mi_Conflicts_init : MethodName × ByteArray × Nat × Option FieldType := (⟨"Branchwork$Conflicts", "<init>", "()V"⟩, prog_3_method_1_code, 1, (Option.none : Option Jvm.ClassFile.FieldType))
def mi_Renames_init : MethodName × ByteArray × Nat × Option FieldType := (⟨"Branchwork$Renames", "<init>", "()V"⟩, prog_8_method_1_code, 1, (Option.none : Option Jvm.ClassFile.FieldType))
def mi_Match_init : MethodName × ByteArray × Nat × Option FieldType := (⟨"Branchwork$Match", "<init>", "()V"⟩, prog_6_method_1_code, 1, (Option.none : Option Jvm.ClassFile.FieldType))
def mi_Blender_init : MethodName × ByteArray × Nat × Option FieldType := (⟨"Branchwork$Blender", "<init>", "()V"⟩, prog_2_method_1_code, 1, (Option.none : Option Jvm.ClassFile.FieldType))
def mi_Arrays_fill : MethodName × ByteArray × Nat × Option FieldType := (⟨"java/util/Arrays", "fill", "([II)V"⟩, prog_25_method_103_code, 4, (Option.none : Option Jvm.ClassFile.FieldType))
def mi_Branchwork_put : MethodName × ByteArray × Nat × Option FieldType := (⟨"Branchwork", "put", "(III)I"⟩, prog_1_method_2_code, 5, (Option.some Jvm.ClassFile.FieldType.int))
def mi_Branchwork_requirePath : MethodName × ByteArray × Nat × Option FieldType := (⟨"Branchwork", "requirePath", "(I)V"⟩, prog_1_method_39_code, 1, (Option.none : Option Jvm.ClassFile.FieldType))
def mi_Throwable_init0 : MethodName × ByteArray × Nat × Option FieldType := (⟨"java/lang/Throwable", "<init>", "()V"⟩, prog_24_method_1_code, 1, (Option.none : Option Jvm.ClassFile.FieldType))
def mi_IndexOutOfBoundsException_init : MethodName × ByteArray × Nat × Option FieldType := (⟨"java/lang/IndexOutOfBoundsException", "<init>", "(Ljava/lang/String;)V"⟩, prog_19_method_2_code, 2, (Option.none : Option Jvm.ClassFile.FieldType))
def mi_RuntimeException_init : MethodName × ByteArray × Nat × Option FieldType := (⟨"java/lang/RuntimeException", "<init>", "(Ljava/lang/String;)V"⟩, prog_22_method_2_code, 2, (Option.none : Option Jvm.ClassFile.FieldType))
def mi_Exception_init : MethodName × ByteArray × Nat × Option FieldType := (⟨"java/lang/Exception", "<init>", "(Ljava/lang/String;)V"⟩, prog_16_method_2_code, 2, (Option.none : Option Jvm.ClassFile.FieldType))
def mi_Throwable_init1 : MethodName × ByteArray × Nat × Option FieldType := (⟨"java/lang/Throwable", "<init>", "(Ljava/lang/String;)V"⟩, prog_24_method_2_code, 2, (Option.none : Option Jvm.ClassFile.FieldType))
def mi_Tree_fileAt : MethodName × ByteArray × Nat × Option FieldType := (⟨"Branchwork$Tree", "fileAt", "(I)LBranchwork$Content;"⟩, prog_9_method_2_code, 2, (Option.some (Jvm.ClassFile.FieldType.object "Branchwork$Content")))
def mi_Content_length : MethodName × ByteArray × Nat × Option FieldType := (⟨"Branchwork$Content", "length", "()I"⟩, prog_4_method_3_code, 1, (Option.some Jvm.ClassFile.FieldType.int))
def mi_IllegalArgumentException_init : MethodName × ByteArray × Nat × Option FieldType := (⟨"java/lang/IllegalArgumentException", "<init>", "(Ljava/lang/String;)V"⟩, prog_17_method_2_code, 2, (Option.none : Option Jvm.ClassFile.FieldType))
def mi_Content_isFull : MethodName × ByteArray × Nat × Option FieldType := (⟨"Branchwork$Content", "isFull", "()Z"⟩, prog_4_method_4_code, 1, (Option.some Jvm.ClassFile.FieldType.boolean))
def mi_IllegalStateException_init : MethodName × ByteArray × Nat × Option FieldType := (⟨"java/lang/IllegalStateException", "<init>", "(Ljava/lang/String;)V"⟩, prog_18_method_2_code, 2, (Option.none : Option Jvm.ClassFile.FieldType))
def mi_Content_insert : MethodName × ByteArray × Nat × Option FieldType := (⟨"Branchwork$Content", "insert", "(II)V"⟩, prog_4_method_9_code, 4, (Option.none : Option Jvm.ClassFile.FieldType))
def mi_Branchwork_rename : MethodName × ByteArray × Nat × Option FieldType := (⟨"Branchwork", "rename", "(II)I"⟩, prog_1_method_4_code, 4, (Option.some Jvm.ClassFile.FieldType.int))
def mi_Branchwork_requireFile : MethodName × ByteArray × Nat × Option FieldType := (⟨"Branchwork", "requireFile", "(LBranchwork$Tree;I)V"⟩, prog_1_method_40_code, 2, (Option.none : Option Jvm.ClassFile.FieldType))
def mi_Tree_has : MethodName × ByteArray × Nat × Option FieldType := (⟨"Branchwork$Tree", "has", "(I)Z"⟩, prog_9_method_3_code, 2, (Option.some Jvm.ClassFile.FieldType.boolean))
def mi_Content_exists : MethodName × ByteArray × Nat × Option FieldType := (⟨"Branchwork$Content", "exists", "()Z"⟩, prog_4_method_2_code, 1, (Option.some Jvm.ClassFile.FieldType.boolean))
def mi_Content_copyFrom : MethodName × ByteArray × Nat × Option FieldType := (⟨"Branchwork$Content", "copyFrom", "(LBranchwork$Content;)V"⟩, prog_4_method_14_code, 3, (Option.none : Option Jvm.ClassFile.FieldType))
def mi_Math_min : MethodName × ByteArray × Nat × Option FieldType := (⟨"java/lang/Math", "min", "(II)I"⟩, prog_21_method_69_code, 2, (Option.some Jvm.ClassFile.FieldType.int))
def mi_Content_lineAt : MethodName × ByteArray × Nat × Option FieldType := (⟨"Branchwork$Content", "lineAt", "(I)I"⟩, prog_4_method_6_code, 2, (Option.some Jvm.ClassFile.FieldType.int))
def mi_Content_becomeAbsent : MethodName × ByteArray × Nat × Option FieldType := (⟨"Branchwork$Content", "becomeAbsent", "()V"⟩, prog_4_method_7_code, 1, (Option.none : Option Jvm.ClassFile.FieldType))
def mi_Branchwork_commit : MethodName × ByteArray × Nat × Option FieldType := (⟨"Branchwork", "commit", "(I)I"⟩, prog_1_method_7_code, 3, (Option.some Jvm.ClassFile.FieldType.int))
def mi_History_isFull : MethodName × ByteArray × Nat × Option FieldType := (⟨"Branchwork$History", "isFull", "()Z"⟩, prog_5_method_4_code, 1, (Option.some Jvm.ClassFile.FieldType.boolean))
def mi_Conflicts_howMany : MethodName × ByteArray × Nat × Option FieldType := (⟨"Branchwork$Conflicts", "howMany", "()I"⟩, prog_3_method_2_code, 1, (Option.some Jvm.ClassFile.FieldType.int))
def mi_Branchwork_isClean : MethodName × ByteArray × Nat × Option FieldType := (⟨"Branchwork", "isClean", "()Z"⟩, prog_1_method_34_code, 1, (Option.some Jvm.ClassFile.FieldType.boolean))
def mi_Branchwork_head : MethodName × ByteArray × Nat × Option FieldType := (⟨"Branchwork", "head", "()I"⟩, prog_1_method_33_code, 1, (Option.some Jvm.ClassFile.FieldType.int))
def mi_History_treeOf : MethodName × ByteArray × Nat × Option FieldType := (⟨"Branchwork$History", "treeOf", "(I)LBranchwork$Tree;"⟩, prog_5_method_8_code, 2, (Option.some (Jvm.ClassFile.FieldType.object "Branchwork$Tree")))
def mi_Tree_sameAs : MethodName × ByteArray × Nat × Option FieldType := (⟨"Branchwork$Tree", "sameAs", "(LBranchwork$Tree;)Z"⟩, prog_9_method_7_code, 3, (Option.some Jvm.ClassFile.FieldType.boolean))
def mi_Content_sameAs : MethodName × ByteArray × Nat × Option FieldType := (⟨"Branchwork$Content", "sameAs", "(LBranchwork$Content;)Z"⟩, prog_4_method_15_code, 3, (Option.some Jvm.ClassFile.FieldType.boolean))
def mi_History_add : MethodName × ByteArray × Nat × Option FieldType := (⟨"Branchwork$History", "add", "(LBranchwork$Tree;III)I"⟩, prog_5_method_12_code, 7, (Option.some Jvm.ClassFile.FieldType.int))
def mi_Tree_copyFrom : MethodName × ByteArray × Nat × Option FieldType := (⟨"Branchwork$Tree", "copyFrom", "(LBranchwork$Tree;)V"⟩, prog_9_method_6_code, 3, (Option.none : Option Jvm.ClassFile.FieldType))
def mi_History_numberOfTree : MethodName × ByteArray × Nat × Option FieldType := (⟨"Branchwork$History", "numberOfTree", "(I)I"⟩, prog_5_method_21_code, 3, (Option.some Jvm.ClassFile.FieldType.int))
def mi_History_numberOfContent : MethodName × ByteArray × Nat × Option FieldType := (⟨"Branchwork$History", "numberOfContent", "(II)I"⟩, prog_5_method_22_code, 6, (Option.some Jvm.ClassFile.FieldType.int))
def mi_History_setOf : MethodName × ByteArray × Nat × Option FieldType := (⟨"Branchwork$History", "setOf", "(I)I"⟩, prog_5_method_2_code, 1, (Option.some Jvm.ClassFile.FieldType.int))
def mi_Branchwork_branch : MethodName × ByteArray × Nat × Option FieldType := (⟨"Branchwork", "branch", "()I"⟩, prog_1_method_8_code, 1, (Option.some Jvm.ClassFile.FieldType.int))
def mi_Branchwork_change : MethodName × ByteArray × Nat × Option FieldType := (⟨"Branchwork", "change", "(I)I"⟩, prog_1_method_9_code, 3, (Option.some Jvm.ClassFile.FieldType.int))
def mi_Branchwork_requireBranch : MethodName × ByteArray × Nat × Option FieldType := (⟨"Branchwork", "requireBranch", "(I)V"⟩, prog_1_method_43_code, 2, (Option.none : Option Jvm.ClassFile.FieldType))
def mi_Branchwork_requireCleanAndUnmerged : MethodName × ByteArray × Nat × Option FieldType := (⟨"Branchwork", "requireCleanAndUnmerged", "()V"⟩, prog_1_method_45_code, 1, (Option.none : Option Jvm.ClassFile.FieldType))
def mi_Branchwork_merge : MethodName × ByteArray × Nat × Option FieldType := (⟨"Branchwork", "merge", "(I)I"⟩, prog_1_method_11_code, 5, (Option.some Jvm.ClassFile.FieldType.int))
def mi_History_commonAncestor : MethodName × ByteArray × Nat × Option FieldType := (⟨"Branchwork$History", "commonAncestor", "(II)I"⟩, prog_5_method_15_code, 5, (Option.some Jvm.ClassFile.FieldType.int))
def mi_History_ancestorsOf : MethodName × ByteArray × Nat × Option FieldType := (⟨"Branchwork$History", "ancestorsOf", "(I)I"⟩, prog_5_method_14_code, 2, (Option.some Jvm.ClassFile.FieldType.int))
def mi_History_withAncestors : MethodName × ByteArray × Nat × Option FieldType := (⟨"Branchwork$History", "withAncestors", "(I)I"⟩, prog_5_method_13_code, 4, (Option.some Jvm.ClassFile.FieldType.int))
def mi_History_isIn : MethodName × ByteArray × Nat × Option FieldType := (⟨"Branchwork$History", "isIn", "(II)Z"⟩, prog_5_method_3_code, 2, (Option.some Jvm.ClassFile.FieldType.boolean))
def mi_Merger_mergeTrees : MethodName × ByteArray × Nat × Option FieldType := (⟨"Branchwork$Merger", "mergeTrees", "(LBranchwork$Tree;LBranchwork$Tree;LBranchwork$Tree;)V"⟩, prog_7_method_4_code, 5, (Option.none : Option Jvm.ClassFile.FieldType))
def mi_Tree_clear : MethodName × ByteArray × Nat × Option FieldType := (⟨"Branchwork$Tree", "clear", "()V"⟩, prog_9_method_5_code, 2, (Option.none : Option Jvm.ClassFile.FieldType))
def mi_Conflicts_clear : MethodName × ByteArray × Nat × Option FieldType := (⟨"Branchwork$Conflicts", "clear", "()V"⟩, prog_3_method_8_code, 1, (Option.none : Option Jvm.ClassFile.FieldType))
def mi_Renames_trace : MethodName × ByteArray × Nat × Option FieldType := (⟨"Branchwork$Renames", "trace", "(LBranchwork$Tree;LBranchwork$Tree;)V"⟩, prog_8_method_2_code, 4, (Option.none : Option Jvm.ClassFile.FieldType))
def mi_Renames_nearest : MethodName × ByteArray × Nat × Option FieldType := (⟨"Branchwork$Renames", "nearest", "(LBranchwork$Tree;ILBranchwork$Tree;)I"⟩, prog_8_method_6_code, 8, (Option.some Jvm.ClassFile.FieldType.int))
def mi_Match_nearnessOf : MethodName × ByteArray × Nat × Option FieldType := (⟨"Branchwork$Match", "nearnessOf", "(LBranchwork$Content;LBranchwork$Content;)I"⟩, prog_6_method_4_code, 4, (Option.some Jvm.ClassFile.FieldType.int))
def mi_Match_measure : MethodName × ByteArray × Nat × Option FieldType := (⟨"Branchwork$Match", "measure", "(LBranchwork$Content;LBranchwork$Content;)V"⟩, prog_6_method_6_code, 7, (Option.none : Option Jvm.ClassFile.FieldType))
def mi_Math_max : MethodName × ByteArray × Nat × Option FieldType := (⟨"java/lang/Math", "max", "(II)I"⟩, prog_21_method_65_code, 2, (Option.some Jvm.ClassFile.FieldType.int))
def mi_Merger_mergeFile : MethodName × ByteArray × Nat × Option FieldType := (⟨"Branchwork$Merger", "mergeFile", "(LBranchwork$Tree;LBranchwork$Tree;LBranchwork$Tree;I)V"⟩, prog_7_method_6_code, 9, (Option.none : Option Jvm.ClassFile.FieldType))
def mi_Renames_fateOf : MethodName × ByteArray × Nat × Option FieldType := (⟨"Branchwork$Renames", "fateOf", "(I)I"⟩, prog_8_method_3_code, 2, (Option.some Jvm.ClassFile.FieldType.int))
def mi_Merger_mergeLeftOut : MethodName × ByteArray × Nat × Option FieldType := (⟨"Branchwork$Merger", "mergeLeftOut", "(LBranchwork$Tree;LBranchwork$Tree;II)V"⟩, prog_7_method_7_code, 6, (Option.none : Option Jvm.ClassFile.FieldType))
def mi_Merger_bring : MethodName × ByteArray × Nat × Option FieldType := (⟨"Branchwork$Merger", "bring", "(LBranchwork$Content;I)Z"⟩, prog_7_method_9_code, 3, (Option.some Jvm.ClassFile.FieldType.boolean))
def mi_Conflicts_tell : MethodName × ByteArray × Nat × Option FieldType := (⟨"Branchwork$Conflicts", "tell", "(II)V"⟩, prog_3_method_6_code, 3, (Option.none : Option Jvm.ClassFile.FieldType))
def mi_Blender_blendInto : MethodName × ByteArray × Nat × Option FieldType := (⟨"Branchwork$Blender", "blendInto", "(LBranchwork$Content;LBranchwork$Content;LBranchwork$Content;LBranchwork$Content;)Z"⟩, prog_2_method_2_code, 13, (Option.some Jvm.ClassFile.FieldType.boolean))
def mi_Match_pairUp : MethodName × ByteArray × Nat × Option FieldType := (⟨"Branchwork$Match", "pairUp", "(LBranchwork$Content;LBranchwork$Content;)V"⟩, prog_6_method_5_code, 5, (Option.none : Option Jvm.ClassFile.FieldType))
def mi_Content_becomeEmpty : MethodName × ByteArray × Nat × Option FieldType := (⟨"Branchwork$Content", "becomeEmpty", "()V"⟩, prog_4_method_8_code, 1, (Option.none : Option Jvm.ClassFile.FieldType))
def mi_Match_partnerInB : MethodName × ByteArray × Nat × Option FieldType := (⟨"Branchwork$Match", "partnerInB", "(I)I"⟩, prog_6_method_2_code, 2, (Option.some Jvm.ClassFile.FieldType.int))
def mi_Content_becomePart : MethodName × ByteArray × Nat × Option FieldType := (⟨"Branchwork$Content", "becomePart", "(LBranchwork$Content;II)V"⟩, prog_4_method_13_code, 5, (Option.none : Option Jvm.ClassFile.FieldType))
def mi_Content_append : MethodName × ByteArray × Nat × Option FieldType := (⟨"Branchwork$Content", "append", "(I)V"⟩, prog_4_method_11_code, 2, (Option.none : Option Jvm.ClassFile.FieldType))
def mi_Blender_blendParts : MethodName × ByteArray × Nat × Option FieldType := (⟨"Branchwork$Blender", "blendParts", "(LBranchwork$Content;)Z"⟩, prog_2_method_3_code, 2, (Option.some Jvm.ClassFile.FieldType.boolean))
def mi_Content_appendAll : MethodName × ByteArray × Nat × Option FieldType := (⟨"Branchwork$Content", "appendAll", "(LBranchwork$Content;)V"⟩, prog_4_method_12_code, 3, (Option.none : Option Jvm.ClassFile.FieldType))
def mi_Merger_isNew : MethodName × ByteArray × Nat × Option FieldType := (⟨"Branchwork$Merger", "isNew", "(LBranchwork$Tree;LBranchwork$Tree;LBranchwork$Renames;I)Z"⟩, prog_7_method_5_code, 4, (Option.some Jvm.ClassFile.FieldType.boolean))
def mi_Renames_sourceOf : MethodName × ByteArray × Nat × Option FieldType := (⟨"Branchwork$Renames", "sourceOf", "(I)I"⟩, prog_8_method_4_code, 2, (Option.some Jvm.ClassFile.FieldType.int))
def mi_Merger_joinNew : MethodName × ByteArray × Nat × Option FieldType := (⟨"Branchwork$Merger", "joinNew", "(LBranchwork$Content;LBranchwork$Content;I)V"⟩, prog_7_method_8_code, 4, (Option.none : Option Jvm.ClassFile.FieldType))
def mi_Merger_result : MethodName × ByteArray × Nat × Option FieldType := (⟨"Branchwork$Merger", "result", "()LBranchwork$Tree;"⟩, prog_7_method_2_code, 1, (Option.some (Jvm.ClassFile.FieldType.object "Branchwork$Tree")))
def mi_Merger_told : MethodName × ByteArray × Nat × Option FieldType := (⟨"Branchwork$Merger", "told", "()LBranchwork$Conflicts;"⟩, prog_7_method_3_code, 1, (Option.some (Jvm.ClassFile.FieldType.object "Branchwork$Conflicts")))
def mi_Conflicts_copyFrom : MethodName × ByteArray × Nat × Option FieldType := (⟨"Branchwork$Conflicts", "copyFrom", "(LBranchwork$Conflicts;)V"⟩, prog_3_method_9_code, 3, (Option.none : Option Jvm.ClassFile.FieldType))
def mi_Conflicts_codeOf : MethodName × ByteArray × Nat × Option FieldType := (⟨"Branchwork$Conflicts", "codeOf", "(I)I"⟩, prog_3_method_4_code, 2, (Option.some Jvm.ClassFile.FieldType.int))
def mi_Conflicts_holds : MethodName × ByteArray × Nat × Option FieldType := (⟨"Branchwork$Conflicts", "holds", "(I)Z"⟩, prog_3_method_3_code, 2, (Option.some Jvm.ClassFile.FieldType.boolean))
def mi_Conflicts_pathOf : MethodName × ByteArray × Nat × Option FieldType := (⟨"Branchwork$Conflicts", "pathOf", "(I)I"⟩, prog_3_method_5_code, 2, (Option.some Jvm.ClassFile.FieldType.int))
def mi_Branchwork_settle : MethodName × ByteArray × Nat × Option FieldType := (⟨"Branchwork", "settle", "(I)I"⟩, prog_1_method_12_code, 2, (Option.some Jvm.ClassFile.FieldType.int))
def mi_Branchwork_requireConflict : MethodName × ByteArray × Nat × Option FieldType := (⟨"Branchwork", "requireConflict", "(I)V"⟩, prog_1_method_44_code, 2, (Option.none : Option Jvm.ClassFile.FieldType))
def mi_Conflicts_drop : MethodName × ByteArray × Nat × Option FieldType := (⟨"Branchwork$Conflicts", "drop", "(I)V"⟩, prog_3_method_7_code, 3, (Option.none : Option Jvm.ClassFile.FieldType))
def mi_Branchwork_collect : MethodName × ByteArray × Nat × Option FieldType := (⟨"Branchwork", "collect", "()I"⟩, prog_1_method_13_code, 2, (Option.some Jvm.ClassFile.FieldType.int))
def mi_Branchwork_garbage : MethodName × ByteArray × Nat × Option FieldType := (⟨"Branchwork", "garbage", "()I"⟩, prog_1_method_27_code, 1, (Option.some Jvm.ClassFile.FieldType.int))
def mi_History_kept : MethodName × ByteArray × Nat × Option FieldType := (⟨"Branchwork$History", "kept", "()I"⟩, prog_5_method_5_code, 1, (Option.some Jvm.ClassFile.FieldType.int))
def mi_History_countObjects : MethodName × ByteArray × Nat × Option FieldType := (⟨"Branchwork$History", "countObjects", "(I)I"⟩, prog_5_method_16_code, 2, (Option.some Jvm.ClassFile.FieldType.int))
def mi_Integer_bitCount : MethodName × ByteArray × Nat × Option FieldType := (⟨"java/lang/Integer", "bitCount", "(I)I"⟩, prog_20_method_49_code, 1, (Option.some Jvm.ClassFile.FieldType.int))
def mi_History_countTrees : MethodName × ByteArray × Nat × Option FieldType := (⟨"Branchwork$History", "countTrees", "(I)I"⟩, prog_5_method_17_code, 4, (Option.some Jvm.ClassFile.FieldType.int))
def mi_History_countContents : MethodName × ByteArray × Nat × Option FieldType := (⟨"Branchwork$History", "countContents", "(I)I"⟩, prog_5_method_18_code, 4, (Option.some Jvm.ClassFile.FieldType.int))
def mi_History_meetContents : MethodName × ByteArray × Nat × Option FieldType := (⟨"Branchwork$History", "meetContents", "(I)V"⟩, prog_5_method_20_code, 5, (Option.none : Option Jvm.ClassFile.FieldType))
def mi_Branchwork_reached : MethodName × ByteArray × Nat × Option FieldType := (⟨"Branchwork", "reached", "()I"⟩, prog_1_method_35_code, 3, (Option.some Jvm.ClassFile.FieldType.int))
def mi_History_keepOnly : MethodName × ByteArray × Nat × Option FieldType := (⟨"Branchwork$History", "keepOnly", "(I)V"⟩, prog_5_method_7_code, 2, (Option.none : Option Jvm.ClassFile.FieldType))
def mi_Branchwork_many : MethodName × ByteArray × Nat × Option FieldType := (⟨"Branchwork", "many", "(I)I"⟩, prog_1_method_14_code, 2, (Option.some Jvm.ClassFile.FieldType.int))
def mi_Tree_countFiles : MethodName × ByteArray × Nat × Option FieldType := (⟨"Branchwork$Tree", "countFiles", "()I"⟩, prog_9_method_4_code, 3, (Option.some Jvm.ClassFile.FieldType.int))
def mi_Branchwork_now : MethodName × ByteArray × Nat × Option FieldType := (⟨"Branchwork", "now", "(I)I"⟩, prog_1_method_15_code, 2, (Option.some Jvm.ClassFile.FieldType.int))
def mi_Branchwork_at : MethodName × ByteArray × Nat × Option FieldType := (⟨"Branchwork", "at", "(I)I"⟩, prog_1_method_16_code, 2, (Option.some Jvm.ClassFile.FieldType.int))
def mi_Branchwork_ofCommit : MethodName × ByteArray × Nat × Option FieldType := (⟨"Branchwork", "ofCommit", "(II)I"⟩, prog_1_method_17_code, 3, (Option.some Jvm.ClassFile.FieldType.int))
def mi_Branchwork_requireCommit : MethodName × ByteArray × Nat × Option FieldType := (⟨"Branchwork", "requireCommit", "(I)V"⟩, prog_1_method_42_code, 2, (Option.none : Option Jvm.ClassFile.FieldType))
def mi_History_holds : MethodName × ByteArray × Nat × Option FieldType := (⟨"Branchwork$History", "holds", "(I)Z"⟩, prog_5_method_6_code, 2, (Option.some Jvm.ClassFile.FieldType.boolean))
def mi_History_firstParent : MethodName × ByteArray × Nat × Option FieldType := (⟨"Branchwork$History", "firstParent", "(I)I"⟩, prog_5_method_10_code, 2, (Option.some Jvm.ClassFile.FieldType.int))
def mi_History_secondParent : MethodName × ByteArray × Nat × Option FieldType := (⟨"Branchwork$History", "secondParent", "(I)I"⟩, prog_5_method_11_code, 2, (Option.some Jvm.ClassFile.FieldType.int))
def mi_History_noteOf : MethodName × ByteArray × Nat × Option FieldType := (⟨"Branchwork$History", "noteOf", "(I)I"⟩, prog_5_method_9_code, 2, (Option.some Jvm.ClassFile.FieldType.int))
def mi_Branchwork_size : MethodName × ByteArray × Nat × Option FieldType := (⟨"Branchwork", "size", "(II)I"⟩, prog_1_method_19_code, 4, (Option.some Jvm.ClassFile.FieldType.int))
def mi_Branchwork_fileToShow : MethodName × ByteArray × Nat × Option FieldType := (⟨"Branchwork", "fileToShow", "(II)LBranchwork$Content;"⟩, prog_1_method_36_code, 3, (Option.some (Jvm.ClassFile.FieldType.object "Branchwork$Content")))
def mi_Branchwork_conflict : MethodName × ByteArray × Nat × Option FieldType := (⟨"Branchwork", "conflict", "(II)I"⟩, prog_1_method_20_code, 3, (Option.some Jvm.ClassFile.FieldType.int))
def mi_Branchwork_base : MethodName × ByteArray × Nat × Option FieldType := (⟨"Branchwork", "base", "(II)I"⟩, prog_1_method_21_code, 3, (Option.some Jvm.ClassFile.FieldType.int))
def mi_Branchwork_went : MethodName × ByteArray × Nat × Option FieldType := (⟨"Branchwork", "went", "(III)I"⟩, prog_1_method_22_code, 4, (Option.some Jvm.ClassFile.FieldType.int))
def mi_Branchwork_changes : MethodName × ByteArray × Nat × Option FieldType := (⟨"Branchwork", "changes", "(III)I"⟩, prog_1_method_23_code, 8, (Option.some Jvm.ClassFile.FieldType.int))
def mi_Branchwork_kindOfChange : MethodName × ByteArray × Nat × Option FieldType := (⟨"Branchwork", "kindOfChange", "(LBranchwork$Tree;LBranchwork$Tree;I)I"⟩, prog_1_method_37_code, 4, (Option.some Jvm.ClassFile.FieldType.int))
def mi_Renames_howMany : MethodName × ByteArray × Nat × Option FieldType := (⟨"Branchwork$Renames", "howMany", "()I"⟩, prog_8_method_5_code, 1, (Option.some Jvm.ClassFile.FieldType.int))
def mi_Branchwork_nearness : MethodName × ByteArray × Nat × Option FieldType := (⟨"Branchwork", "nearness", "(IIII)I"⟩, prog_1_method_24_code, 5, (Option.some Jvm.ClassFile.FieldType.int))
def mi_Branchwork_origin : MethodName × ByteArray × Nat × Option FieldType := (⟨"Branchwork", "origin", "(III)I"⟩, prog_1_method_25_code, 9, (Option.some Jvm.ClassFile.FieldType.int))
def mi_Branchwork_requirePlace : MethodName × ByteArray × Nat × Option FieldType := (⟨"Branchwork", "requirePlace", "(LBranchwork$Content;I)V"⟩, prog_1_method_41_code, 2, (Option.none : Option Jvm.ClassFile.FieldType))
def mi_Content_holds : MethodName × ByteArray × Nat × Option FieldType := (⟨"Branchwork$Content", "holds", "(I)Z"⟩, prog_4_method_5_code, 2, (Option.some Jvm.ClassFile.FieldType.boolean))
def mi_Branchwork_spotInParent : MethodName × ByteArray × Nat × Option FieldType := (⟨"Branchwork", "spotInParent", "(III)I"⟩, prog_1_method_38_code, 9, (Option.some Jvm.ClassFile.FieldType.int))
def mi_Match_partnerInA : MethodName × ByteArray × Nat × Option FieldType := (⟨"Branchwork$Match", "partnerInA", "(I)I"⟩, prog_6_method_3_code, 2, (Option.some Jvm.ClassFile.FieldType.int))
def mi_Branchwork_conflictsOf : MethodName × ByteArray × Nat × Option FieldType := (⟨"Branchwork", "conflictsOf", "(II)I"⟩, prog_1_method_26_code, 4, (Option.some Jvm.ClassFile.FieldType.int))
def mi_Branchwork_digest : MethodName × ByteArray × Nat × Option FieldType := (⟨"Branchwork", "digest", "()J"⟩, prog_1_method_29_code, 4, (Option.some Jvm.ClassFile.FieldType.long))
def mi_Branchwork_fold : MethodName × ByteArray × Nat × Option FieldType := (⟨"Branchwork", "fold", "(JI)J"⟩, prog_1_method_30_code, 3, (Option.some Jvm.ClassFile.FieldType.long))
def mi_Branchwork_status : MethodName × ByteArray × Nat × Option FieldType := (⟨"Branchwork", "status", "(I)I"⟩, prog_1_method_6_code, 3, (Option.some Jvm.ClassFile.FieldType.int))
def mi_Branchwork_foldTree : MethodName × ByteArray × Nat × Option FieldType := (⟨"Branchwork", "foldTree", "(JLBranchwork$Tree;)J"⟩, prog_1_method_31_code, 8, (Option.some Jvm.ClassFile.FieldType.long))
def mi_Branchwork_foldCommit : MethodName × ByteArray × Nat × Option FieldType := (⟨"Branchwork", "foldCommit", "(JI)J"⟩, prog_1_method_32_code, 7, (Option.some Jvm.ClassFile.FieldType.long))
def mi_BranchworkLaw_below : MethodName × ByteArray × Nat × Option FieldType := (⟨"BranchworkLaw", "below", "(II)I"⟩, method_2_code, 2, (Option.some Jvm.ClassFile.FieldType.int))
def mi_BranchworkLaw_cell : MethodName × ByteArray × Nat × Option FieldType := (⟨"BranchworkLaw", "cell", "([II)I"⟩, method_3_code, 2, (Option.some Jvm.ClassFile.FieldType.int))
def mi_BranchworkLaw_countRenamed : MethodName × ByteArray × Nat × Option FieldType := (⟨"BranchworkLaw", "countRenamed", "(LBranchwork;II)I"⟩, method_5_code, 5, (Option.some Jvm.ClassFile.FieldType.int))
def mi_BranchworkLaw_isClean : MethodName × ByteArray × Nat × Option FieldType := (⟨"BranchworkLaw", "isClean", "(LBranchwork;)Z"⟩, method_6_code, 2, (Option.some Jvm.ClassFile.FieldType.boolean))
end
section
def F_Content : u_T := fun k => match k with
  | 0 => ("Branchwork$Content", "lines", "[I", true)
  | 1 => ("Branchwork$Content", "count", "I", false)
  | _ => ("Branchwork$Content", "present", "Z", false)
def F_Tree : u_T := fun k => match k with
  | 0 => ("Branchwork$Tree", "files", "[LBranchwork$Content;", true)
  | _ => ("Branchwork$Tree", "outside", "LBranchwork$Content;", true)
def F_Match : u_T := fun k => match k with
  | 0 => ("Branchwork$Match", "common", "[I", true)
  | 1 => ("Branchwork$Match", "partnersInB", "[I", true)
  | _ => ("Branchwork$Match", "partnersInA", "[I", true)
def F_Renames : u_T := fun k => match k with
  | 0 => ("Branchwork$Renames", "fates", "[I", true)
  | 1 => ("Branchwork$Renames", "sources", "[I", true)
  | 2 => ("Branchwork$Renames", "match", "LBranchwork$Match;", true)
  | _ => ("Branchwork$Renames", "count", "I", false)
def F_Blender : u_T := fun k => match k with
  | 0 => ("Branchwork$Blender", "withOurs", "LBranchwork$Match;", true)
  | 1 => ("Branchwork$Blender", "withTheirs", "LBranchwork$Match;", true)
  | 2 => ("Branchwork$Blender", "basePart", "LBranchwork$Content;", true)
  | 3 => ("Branchwork$Blender", "ourPart", "LBranchwork$Content;", true)
  | _ => ("Branchwork$Blender", "theirPart", "LBranchwork$Content;", true)
def F_Conflicts : u_T := fun k => match k with
  | 0 => ("Branchwork$Conflicts", "codes", "[I", true)
  | 1 => ("Branchwork$Conflicts", "paths", "[I", true)
  | _ => ("Branchwork$Conflicts", "count", "I", false)
def F_Merger : u_T := fun k => match k with
  | 0 => ("Branchwork$Merger", "result", "LBranchwork$Tree;", true)
  | 1 => ("Branchwork$Merger", "told", "LBranchwork$Conflicts;", true)
  | 2 => ("Branchwork$Merger", "toOurs", "LBranchwork$Renames;", true)
  | 3 => ("Branchwork$Merger", "toTheirs", "LBranchwork$Renames;", true)
  | 4 => ("Branchwork$Merger", "blender", "LBranchwork$Blender;", true)
  | 5 => ("Branchwork$Merger", "noLines", "LBranchwork$Content;", true)
  | _ => ("Branchwork$Merger", "newFromOurs", "[Z", true)
def F_History : u_T := fun k => match k with
  | 0 => ("Branchwork$History", "trees", "[LBranchwork$Tree;", true)
  | 1 => ("Branchwork$History", "nothing", "LBranchwork$Tree;", true)
  | 2 => ("Branchwork$History", "notes", "[I", true)
  | 3 => ("Branchwork$History", "firstParents", "[I", true)
  | 4 => ("Branchwork$History", "secondParents", "[I", true)
  | 5 => ("Branchwork$History", "treeNumbers", "[I", true)
  | 6 => ("Branchwork$History", "contentNumbers", "[I", true)
  | 7 => ("Branchwork$History", "metContents", "[I", true)
  | 8 => ("Branchwork$History", "count", "I", false)
  | _ => ("Branchwork$History", "kept", "I", false)
def F_Branchwork : u_T := fun k => match k with
  | 0 => ("Branchwork", "working", "LBranchwork$Tree;", true)
  | 1 => ("Branchwork", "history", "LBranchwork$History;", true)
  | 2 => ("Branchwork", "merger", "LBranchwork$Merger;", true)
  | 3 => ("Branchwork", "conflicts", "LBranchwork$Conflicts;", true)
  | 4 => ("Branchwork", "renames", "LBranchwork$Renames;", true)
  | 5 => ("Branchwork", "match", "LBranchwork$Match;", true)
  | 6 => ("Branchwork", "tips", "[I", true)
  | 7 => ("Branchwork", "branches", "I", false)
  | 8 => ("Branchwork", "current", "I", false)
  | _ => ("Branchwork", "merged", "I", false)
abbrev jw_cl : List vw_C := [("Branchwork$Content", F_Content, 3), ("Branchwork$Tree", F_Tree, 2), ("Branchwork$Match", F_Match, 3), ("Branchwork$Renames", F_Renames, 4), ("Branchwork$Blender", F_Blender, 5), ("Branchwork$Conflicts", F_Conflicts, 3), ("Branchwork$Merger", F_Merger, 7), ("Branchwork$History", F_History, 10), ("Branchwork", F_Branchwork, 10)]
theorem jc_Content : jw_cl[0]? = some ("Branchwork$Content", F_Content, 3) := rfl
theorem jc_Tree : jw_cl[1]? = some ("Branchwork$Tree", F_Tree, 2) := rfl
theorem jc_Match : jw_cl[2]? = some ("Branchwork$Match", F_Match, 3) := rfl
theorem jc_Renames : jw_cl[3]? = some ("Branchwork$Renames", F_Renames, 4) := rfl
theorem jc_Blender : jw_cl[4]? = some ("Branchwork$Blender", F_Blender, 5) := rfl
theorem jc_Conflicts : jw_cl[5]? = some ("Branchwork$Conflicts", F_Conflicts, 3) := rfl
theorem jc_Merger : jw_cl[6]? = some ("Branchwork$Merger", F_Merger, 7) := rfl
theorem jc_History : jw_cl[7]? = some ("Branchwork$History", F_History, 10) := rfl
theorem jc_Branchwork : jw_cl[8]? = some ("Branchwork", F_Branchwork, 10) := rfl
abbrev jw_tys (cA : Nat → ClassId) : List (ClassId × FieldType) := [(cA 0, .int), (cA 1, .boolean), (cA 2, .object "Branchwork$Content"), (cA 3, .object "Branchwork$Tree")]
def jw_ao : List String := ["Branchwork$Content", "Branchwork$Tree"]
def jw_nest : List (String × Nat × MethodName × String) := [("Branchwork$Tree", 17, ⟨"Branchwork$Content", "<init>", "()V"⟩, "Branchwork"), ("Branchwork", 25, ⟨"Branchwork$Merger", "<init>", "()V"⟩, "Branchwork"), ("Branchwork$Merger", 20, ⟨"Branchwork$Conflicts", "<init>", "()V"⟩, "Branchwork"), ("Branchwork$Merger", 27, ⟨"Branchwork$Renames", "<init>", "()V"⟩, "Branchwork"), ("Branchwork$Renames", 20, ⟨"Branchwork$Match", "<init>", "()V"⟩, "Branchwork"), ("Branchwork$Merger", 37, ⟨"Branchwork$Blender", "<init>", "()V"⟩, "Branchwork"), ("Branchwork$Blender", 11, ⟨"Branchwork$Match", "<init>", "()V"⟩, "Branchwork"), ("Branchwork$Blender", 23, ⟨"Branchwork$Content", "<init>", "()V"⟩, "Branchwork"), ("Branchwork$Merger", 44, ⟨"Branchwork$Content", "<init>", "()V"⟩, "Branchwork"), ("Branchwork", 32, ⟨"Branchwork$Conflicts", "<init>", "()V"⟩, "Branchwork"), ("Branchwork", 39, ⟨"Branchwork$Renames", "<init>", "()V"⟩, "Branchwork"), ("Branchwork", 46, ⟨"Branchwork$Match", "<init>", "()V"⟩, "Branchwork")]
theorem jn_Tree_17 : (("Branchwork$Tree", 17, ⟨"Branchwork$Content", "<init>", "()V"⟩, "Branchwork") : String × Nat × MethodName × String) ∈ jw_nest := List.mem_of_getElem? (i := 0) rfl
theorem jn_Branchwork_25 : (("Branchwork", 25, ⟨"Branchwork$Merger", "<init>", "()V"⟩, "Branchwork") : String × Nat × MethodName × String) ∈ jw_nest := List.mem_of_getElem? (i := 1) rfl
theorem jn_Merger_20 : (("Branchwork$Merger", 20, ⟨"Branchwork$Conflicts", "<init>", "()V"⟩, "Branchwork") : String × Nat × MethodName × String) ∈ jw_nest := List.mem_of_getElem? (i := 2) rfl
theorem jn_Merger_27 : (("Branchwork$Merger", 27, ⟨"Branchwork$Renames", "<init>", "()V"⟩, "Branchwork") : String × Nat × MethodName × String) ∈ jw_nest := List.mem_of_getElem? (i := 3) rfl
theorem jn_Renames_20 : (("Branchwork$Renames", 20, ⟨"Branchwork$Match", "<init>", "()V"⟩, "Branchwork") : String × Nat × MethodName × String) ∈ jw_nest := List.mem_of_getElem? (i := 4) rfl
theorem jn_Merger_37 : (("Branchwork$Merger", 37, ⟨"Branchwork$Blender", "<init>", "()V"⟩, "Branchwork") : String × Nat × MethodName × String) ∈ jw_nest := List.mem_of_getElem? (i := 5) rfl
theorem jn_Blender_11 : (("Branchwork$Blender", 11, ⟨"Branchwork$Match", "<init>", "()V"⟩, "Branchwork") : String × Nat × MethodName × String) ∈ jw_nest := List.mem_of_getElem? (i := 6) rfl
theorem jn_Blender_23 : (("Branchwork$Blender", 23, ⟨"Branchwork$Content", "<init>", "()V"⟩, "Branchwork") : String × Nat × MethodName × String) ∈ jw_nest := List.mem_of_getElem? (i := 7) rfl
theorem jn_Merger_44 : (("Branchwork$Merger", 44, ⟨"Branchwork$Content", "<init>", "()V"⟩, "Branchwork") : String × Nat × MethodName × String) ∈ jw_nest := List.mem_of_getElem? (i := 8) rfl
theorem jn_Branchwork_32 : (("Branchwork", 32, ⟨"Branchwork$Conflicts", "<init>", "()V"⟩, "Branchwork") : String × Nat × MethodName × String) ∈ jw_nest := List.mem_of_getElem? (i := 9) rfl
theorem jn_Branchwork_39 : (("Branchwork", 39, ⟨"Branchwork$Renames", "<init>", "()V"⟩, "Branchwork") : String × Nat × MethodName × String) ∈ jw_nest := List.mem_of_getElem? (i := 10) rfl
theorem jn_Branchwork_46 : (("Branchwork", 46, ⟨"Branchwork$Match", "<init>", "()V"⟩, "Branchwork") : String × Nat × MethodName × String) ∈ jw_nest := List.mem_of_getElem? (i := 11) rfl
def jw_ty0 (T : u_T) (j : Nat) : FieldType := (parseFieldDescriptor (T j).2.2.1).getD .int
theorem jw_tyok : ∀ q ∈ jw_cl, ∀ j, j < q.2.2 → parseFieldDescriptor (q.2.1 j).2.2.1 = some (jw_ty0 q.2.1 j) := by decide +kernel
theorem jw_nmok : ∀ q ∈ jw_cl, ∀ a, a < q.2.2 → ∀ b, b < q.2.2 → a ≠ b → (q.2.1 a).2.1 ≠ (q.2.1 b).2.1 := by decide +kernel
theorem jw_cw : ∀ q ∈ jw_cl, ∀ w ∈ u_ws q.1 q.2.1 q.2.2, w ∈ jw_T := by decide +kernel
theorem jw_ovk : ∀ C ∈ jw_ao, Cond.arrayOver (.object C) ∈ lw_tbl := by decide +kernel
theorem jw_nestk : ∀ q ∈ jw_nest, Cond.methodLinkNest q.1 q.2.1 q.2.2.1 q.2.2.2 ∈ lw_tbl := by decide +kernel
end
section
def jw_xB (_ : jw_O) (_ : State) (_ : Heap) : Prop := True
theorem jw_xB.same {o : jw_O} {u U : State} {H : Heap} (_ : u.vm = U.vm) (_ : jw_xB o u H) : jw_xB o U H := trivial
theorem jw_xB.kept {o : jw_O} {U : State} {H H1 : Heap} (_ : jw_xB o U H) (_ : ∀ q : Nat, q < H.size → ¬ o.2.2.2.1 ≤ q → H1[q]? = H[q]?) : jw_xB o U H1 := trivial
theorem jw_xB.warm {o : jw_O} {s U : State} {H : Heap} (_ : jw_xB o s H) (_ : s.WarmedH U.vm) : jw_xB o U H := trivial
end
section
/-! THE LAYER: one walk judgement (jw_X) over a memory that is a function from addresses to known cells; every rule is a row of the kit, once. -/
/-- what is known of the heap: own cells, from o's first address on -/
def jw_H (o : jw_O) (μ : jw_Mem) (H : Heap) : Prop := ∀ (a : Nat) (e : va_E), μ a = some e → o.2.2.2.1 ≤ a ∧ va_at o.2.1 jw_cl (a, e) H
def jw_S (s : State) : Prop := (∀ q ∈ jw_nest, va_Nw (.methodLinkNest q.1 q.2.1 q.2.2.1 q.2.2.2) s) ∧ ∀ C ∈ jw_ao, va_AO C s
theorem jw_S.moved {s U : State} (hW : s.WarmedH U.vm) (h : jw_S s) : jw_S U := ⟨fun q hq => va_Nw.warmM hW (h.1 q hq), fun C hC => va_AO.moved hW.alike (h.2 C hC)⟩
def jw_B (o : jw_O) (μ : jw_Mem) (hs : Nat) (U : State) : Prop := U.heap.size = hs ∧ jw_H o μ U.heap ∧ va_K o.2.1 jw_cl (jw_tys o.2.2.1) U ∧ jw_S U ∧ o.2.2.2.1 ≤ hs ∧ jw_xB o U U.heap
def jw_Q (o : jw_O) (Φ : Option Value → jw_Mem → Nat → Prop) : Array Value → State → Outcome → State → Prop := fun _ st oc t => (∃ (v : Option Value) (μ' : jw_Mem), oc = .returned v ∧ jw_H o μ' t.heap ∧ Φ v μ' t.heap.size) ∧ va_F (fun q => o.2.2.2.1 ≤ q) st t
def jw_ws (mi : jw_M) : List Cond := Cond.code mi.1 mi.2.1 mi.2.2.1 mi.2.2.2 :: jw_T
def jw_rm (d mc ms : Nat) : Room := { frames := d, cells := mc, slots := ms, locals := 40 * d }
/-- a method's contract: from the memory μ it returns v with a memory μ' so that Φ v μ' (heap's size) -/
def jw_Spec (mi : jw_M) (d mc ms : Nat) (o : jw_O) (As : List Value) (μ : jw_Mem) (hs : Nat) (Φ : Option Value → jw_Mem → Nat → Prop) : Prop :=
  Met o.1 mi.1 (jw_ws mi) (jw_rm d mc ms) (va_Pc As (jw_B o μ hs)) (jw_Q o Φ) mc ms (fun q => o.2.2.2.1 ≤ q)
/-- the frame that walks: its machine, its code, the tables' words -/
def jw_Cx (mi : jw_M) (o : jw_O) (k : jw_K) : Prop :=
  k.1.tables.exec = Jvm.exec ∧ k.2.2.2.2.2.2.2.2.1.code = mi.2.1 ∧ k.2.2.2.2.2.2.2.1.sig.returnType = mi.2.2.2 ∧ k.2.2.2.2.2.2.2.2.1.maxLocals = mi.2.2.1 ∧ k.2.2.2.1.vm.findClass mi.1.cls = some k.2.2.2.2.1.cls ∧ (∀ w ∈ jw_T, w.before k.2.2.2.2.2.1 k.2.2.2.1 = true) ∧ k.2.2.2.2.2.2.2.1.locks = false ∧ k.2.2.2.2.2.2.2.1.name = mi.1.name ∧ va_K o.2.1 jw_cl (jw_tys o.2.2.1) k.2.2.2.1 ∧ jw_S k.2.2.2.1 ∧ o.2.2.2.1 ≤ k.2.2.2.1.heap.size ∧ jw_xB o k.2.2.2.1 k.2.2.2.1.heap
def jw_W (o : jw_O) (k : jw_K) (H : Heap) (locs : List Loc) (kc ks : Nat) (pc : Nat) (ls : Array Slot) (st : List Value) : Prop :=
  W k.1 o.1 k.2.1 k.2.2.1 k.2.2.2.1 k.2.2.2.2.1 k.2.2.2.2.2.1 k.2.2.2.2.2.2.1 k.2.2.2.2.2.2.2.1 k.2.2.2.2.2.2.2.2.1 H locs kc ks k.2.2.2.2.2.2.2.2.2 (F0 k.2.2.2.2.1 pc ls st)
/-- from here the walk comes to its end -/
def jw_X (mi : jw_M) (o : jw_O) (k : jw_K) (kc ks pc : Nat) (lc : List (Nat × Value)) (st : List Value) (μ : jw_Mem) (hs : Nat) : Prop :=
  jw_Cx mi o k → ∀ (H : Heap) (locs : List Loc) (ls : Array Slot), H.size = hs → jw_H o μ H → va_S (fun q => o.2.2.2.1 ≤ q) k.2.2.2.1.heap H locs → lv_has ls mi.2.2.1 lc → jw_W o k H locs kc ks pc ls st
def jw_Rm (k : jw_K) (d mc ms : Nat) : Prop := d ≤ k.2.2.1.frames ∧ 40 * d ≤ k.2.2.1.locals ∧ mc ≤ k.2.2.1.cells ∧ ms ≤ k.2.2.1.slots
/-- the walk's end is the end of a method with the post Φ -/
def jw_E (o : jw_O) (k : jw_K) (mc ms : Nat) (Φ : Option Value → jw_Mem → Nat → Prop) : Prop := ∀ (H : Heap) (locs : List Loc) (g : JFrame), W k.1 o.1 k.2.1 k.2.2.1 k.2.2.2.1 k.2.2.2.2.1 k.2.2.2.2.2.1 k.2.2.2.2.2.2.1 k.2.2.2.2.2.2.2.1 k.2.2.2.2.2.2.2.2.1 H locs mc ms (MQ k.2.2.2.2.2.2.1 (jw_Q o Φ) k.2.2.2.2.2.1 k.2.2.2.1 mc ms (fun q => o.2.2.2.1 ≤ q)) g → W k.1 o.1 k.2.1 k.2.2.1 k.2.2.2.1 k.2.2.2.2.1 k.2.2.2.2.2.1 k.2.2.2.2.2.2.1 k.2.2.2.2.2.2.2.1 k.2.2.2.2.2.2.2.2.1 H locs mc ms k.2.2.2.2.2.2.2.2.2 g
-- locals
def jw_lk : List (Nat × Value) → Nat → Option Value
  | [], _ => none
  | q :: t, i => match Nat.beq q.1 i with
    | true => some q.2
    | false => jw_lk t i
theorem jw_lk_mem : ∀ {lc : List (Nat × Value)} {i : Nat} {v : Value}, jw_lk lc i = some v → (i, v) ∈ lc
  | [], _, _, h => by simp [jw_lk] at h
  | (j, w) :: t, i, v, h => by
    unfold jw_lk at h
    cases hb : Nat.beq j i with
    | true =>
      rw [hb] at h
      have e1 : j = i := Nat.eq_of_beq_eq_true hb
      have e2 : w = v := Option.some.inj h
      rw [← e1, ← e2]
      exact List.mem_cons_self
    | false =>
      rw [hb] at h
      exact List.mem_cons_of_mem _ (jw_lk_mem h)
theorem jw_at {ls : Array Slot} {n : Nat} {lc : List (Nat × Value)} (h : lv_has ls n lc) {i : Nat} {v : Value} (hv : jw_lk lc i = some v) : ls[i]? = some (.val v) := h.2.2 (i, v) (jw_lk_mem hv)
def jw_sb (lc : List (Nat × Value)) : List (Nat × Value) → Prop
  | [] => True
  | q :: t => jw_lk lc q.1 = some q.2 ∧ jw_sb lc t
theorem jw_sb_of {ls : Array Slot} {n : Nat} {lc : List (Nat × Value)} (h : lv_has ls n lc) : ∀ {l2 : List (Nat × Value)}, jw_sb lc l2 → lv_has ls n l2
  | [], _ => ⟨h.1, h.2.1, fun _ hq => absurd hq List.not_mem_nil⟩
  | q :: t, hs => ⟨h.1, h.2.1, fun x hx => (List.mem_cons.mp hx).elim (fun e => by rw [e]; exact jw_at h hs.1) (fun hx => (jw_sb_of h hs.2).2.2 x hx)⟩
/-- a store of one word: the old list without the place, the new value in its place by the order of the numbers -/
def jw_s1 (lc : List (Nat × Value)) (i : Nat) (v : Value) : List (Nat × Value) := (i, v) :: lc.filter (fun q => !(q.1 == i) && !(q.1 + 1 == i && q.2.category == 2))
def jw_s2 (lc : List (Nat × Value)) (i : Nat) (v : Value) : List (Nat × Value) := (i, v) :: lc.filter (fun q => !(q.1 == i) && (!(q.1 == i + 1) && !(q.1 + 1 == i && q.2.category == 2)))
/-- outside of the n cells from a on nothing has changed -/
def jw_Fr (μ0 μ : jw_Mem) (a n : Nat) : Prop := ∀ q, (q < a ∨ a + n ≤ q) → μ q = μ0 q
theorem jw_Fr.rf {μ0 : jw_Mem} {a n : Nat} : jw_Fr μ0 μ0 a n := fun _ _ => rfl
theorem jw_Fr.step {μ0 μ μ' : jw_Mem} {a n b : Nat} (h : jw_Fr μ0 μ a n) (f : ∀ q, q ≠ b → μ' q = μ q) (hb : a ≤ b ∧ b < a + n) : jw_Fr μ0 μ' a n := fun q hq => (f q (by omega)).trans (h q hq)
theorem jw_Fr.trans {μ0 μ μ' : jw_Mem} {a n b m : Nat} (h : jw_Fr μ0 μ a n) (f : jw_Fr μ μ' b m) (h1 : a ≤ b) (h2 : b + m ≤ a + n) : jw_Fr μ0 μ' a n := fun q hq => (f q (by omega)).trans (h q hq)
theorem jw_rf {F : Nat → Option Nat} {p q : Nat} (h : F p = some q) (hp : p < 2 ^ 31) : va_rf (F (nI p).toNatClampNeg) = .ref q := by rw [nI_clamp hp, h]; rfl
theorem jw_Fr.o {μ μ' : jw_Mem} {b : Nat} (f : ∀ q, q ≠ b → μ' q = μ q) : jw_Fr μ μ' b 1 := fun q hq => f q (by omega)
section Rules
variable {mi : jw_M} {o : jw_O} {k : jw_K} {kc ks pc pc' : Nat} {lc lc' : List (Nat × Value)} {st rest : List Value} {μ : jw_Mem} {hs : Nat}
theorem jw_sub (h : jw_sb lc lc') (kk : jw_X mi o k kc ks pc lc' st μ hs) : jw_X mi o k kc ks pc lc st μ hs := fun C H locs ls e1 e2 e3 e4 => kk C H locs ls e1 e2 e3 (jw_sb_of e4 h)
theorem jw_cnt {kc' ks' : Nat} (h : kc = kc') (h2 : ks = ks') (kk : jw_X mi o k kc' ks' pc lc st μ hs) : jw_X mi o k kc ks pc lc st μ hs := by subst h; subst h2; exact kk
theorem jw_hs {hs' : Nat} (h : hs = hs') (kk : jw_X mi o k kc ks pc lc st μ hs') : jw_X mi o k kc ks pc lc st μ hs := h ▸ kk
theorem jw_top {v w : Value} (h : v = w) (kk : jw_X mi o k kc ks pc lc (w :: rest) μ hs) : jw_X mi o k kc ks pc lc (v :: rest) μ hs := h ▸ kk
theorem jw_mu {μ' : jw_Mem} (h : μ = μ') (kk : jw_X mi o k kc ks pc lc st μ' hs) : jw_X mi o k kc ks pc lc st μ hs := h ▸ kk
/-- less known -/
theorem jw_less {μ' : jw_Mem} (h : ∀ a e, μ' a = some e → μ a = some e) (kk : jw_X mi o k kc ks pc lc st μ' hs) : jw_X mi o k kc ks pc lc st μ hs := fun C H locs ls e1 e2 e3 e4 => kk C H locs ls e1 (fun a e q => e2 a e (h a e q)) e3 e4
theorem jw_iconst {n : Int} {v : Int32} (hd : decode mi.2.1 pc = .ok (.iconst n, 1)) (hv : Int32.ofInt n = v) (hp : pc + 1 = pc') (kk : jw_X mi o k kc ks pc' lc (.int v :: st) μ hs) : jw_X mi o k kc ks pc lc st μ hs := by
  subst hp; exact fun C H locs ls e1 e2 e3 e4 => lv_iconst C.1 C.2.1 hd hv (kk C H locs ls e1 e2 e3 e4)
theorem jw_bipush {n : Int} {v : Int32} (hd : decode mi.2.1 pc = .ok (.bipush n, 2)) (hv : (Int8.ofInt n).toInt32 = v) (hp : pc + 2 = pc') (kk : jw_X mi o k kc ks pc' lc (.int v :: st) μ hs) : jw_X mi o k kc ks pc lc st μ hs := by
  subst hp; exact fun C H locs ls e1 e2 e3 e4 => lv_bipush C.1 C.2.1 hd hv (kk C H locs ls e1 e2 e3 e4)
theorem jw_sipush {n : Int} {v : Int32} (hd : decode mi.2.1 pc = .ok (.sipush n, 3)) (hv : (Int16.ofInt n).toInt32 = v) (hp : pc + 3 = pc') (kk : jw_X mi o k kc ks pc' lc (.int v :: st) μ hs) : jw_X mi o k kc ks pc lc st μ hs := by
  subst hp; exact fun C H locs ls e1 e2 e3 e4 => lv_sipush C.1 C.2.1 hd hv (kk C H locs ls e1 e2 e3 e4)
theorem jw_null (hd : decode mi.2.1 pc = .ok (.aconst_null, 1)) (hp : pc + 1 = pc') (kk : jw_X mi o k kc ks pc' lc (.null :: st) μ hs) : jw_X mi o k kc ks pc lc st μ hs := by
  subst hp; exact fun C H locs ls e1 e2 e3 e4 => lv_null C.1 C.2.1 hd (kk C H locs ls e1 e2 e3 e4)
theorem jw_ldc2 {idx : Nat} {v : Int64} (hd : decode mi.2.1 pc = .ok (.ldc2_w idx, 3)) (hw : Cond.constantLong mi.1.cls idx v ∈ jw_T) (hp : pc + 3 = pc') (kk : jw_X mi o k kc ks pc' lc (.long v :: st) μ hs) : jw_X mi o k kc ks pc lc st μ hs := by
  subst hp; exact fun C H locs ls e1 e2 e3 e4 => lv_ldc2 C.1 C.2.1 C.2.2.2.2.1 (C.2.2.2.2.2.1 _ hw) hd (kk C H locs ls e1 e2 e3 e4)
theorem jw_iload_n {n : Fin 4} {i : Nat} {x : Int32} (hd : decode mi.2.1 pc = .ok (.iload_n n, 1)) (hi : (n : Nat) = i) (hv : jw_lk lc i = some (.int x)) (hp : pc + 1 = pc') (kk : jw_X mi o k kc ks pc' lc (.int x :: st) μ hs) : jw_X mi o k kc ks pc lc st μ hs := by
  subst hp; exact fun C H locs ls e1 e2 e3 e4 => lv_iload_n C.1 C.2.1 hd hi (jw_at e4 hv) (kk C H locs ls e1 e2 e3 e4)
theorem jw_iload {i : Nat} {x : Int32} (hd : decode mi.2.1 pc = .ok (.iload i, 2)) (hv : jw_lk lc i = some (.int x)) (hp : pc + 2 = pc') (kk : jw_X mi o k kc ks pc' lc (.int x :: st) μ hs) : jw_X mi o k kc ks pc lc st μ hs := by
  subst hp; exact fun C H locs ls e1 e2 e3 e4 => lv_iload C.1 C.2.1 hd (jw_at e4 hv) (kk C H locs ls e1 e2 e3 e4)
theorem jw_lload_n {n : Fin 4} {i : Nat} {x : Int64} (hd : decode mi.2.1 pc = .ok (.lload_n n, 1)) (hi : (n : Nat) = i) (hv : jw_lk lc i = some (.long x)) (hp : pc + 1 = pc') (kk : jw_X mi o k kc ks pc' lc (.long x :: st) μ hs) : jw_X mi o k kc ks pc lc st μ hs := by
  subst hp; exact fun C H locs ls e1 e2 e3 e4 => lv_lload_n C.1 C.2.1 hd hi (jw_at e4 hv) (kk C H locs ls e1 e2 e3 e4)
theorem jw_lload {i : Nat} {x : Int64} (hd : decode mi.2.1 pc = .ok (.lload i, 2)) (hv : jw_lk lc i = some (.long x)) (hp : pc + 2 = pc') (kk : jw_X mi o k kc ks pc' lc (.long x :: st) μ hs) : jw_X mi o k kc ks pc lc st μ hs := by
  subst hp; exact fun C H locs ls e1 e2 e3 e4 => lv_lload C.1 C.2.1 hd (jw_at e4 hv) (kk C H locs ls e1 e2 e3 e4)
theorem jw_aload_n {n : Fin 4} {i x : Nat} (hd : decode mi.2.1 pc = .ok (.aload_n n, 1)) (hi : (n : Nat) = i) (hv : jw_lk lc i = some (.ref x)) (hp : pc + 1 = pc') (kk : jw_X mi o k kc ks pc' lc (.ref x :: st) μ hs) : jw_X mi o k kc ks pc lc st μ hs := by
  subst hp; exact fun C H locs ls e1 e2 e3 e4 => lv_aload_n C.1 C.2.1 hd hi (jw_at e4 hv) (kk C H locs ls e1 e2 e3 e4)
theorem jw_aload {i x : Nat} (hd : decode mi.2.1 pc = .ok (.aload i, 2)) (hv : jw_lk lc i = some (.ref x)) (hp : pc + 2 = pc') (kk : jw_X mi o k kc ks pc' lc (.ref x :: st) μ hs) : jw_X mi o k kc ks pc lc st μ hs := by
  subst hp; exact fun C H locs ls e1 e2 e3 e4 => lv_aload C.1 C.2.1 hd (jw_at e4 hv) (kk C H locs ls e1 e2 e3 e4)
theorem jw_aload_nN {n : Fin 4} {i : Nat} (hd : decode mi.2.1 pc = .ok (.aload_n n, 1)) (hi : (n : Nat) = i) (hv : jw_lk lc i = some .null) (hp : pc + 1 = pc') (kk : jw_X mi o k kc ks pc' lc (.null :: st) μ hs) : jw_X mi o k kc ks pc lc st μ hs := by
  subst hp; exact fun C H locs ls e1 e2 e3 e4 => lv_aload_nN C.1 C.2.1 hd hi (jw_at e4 hv) (kk C H locs ls e1 e2 e3 e4)
theorem jw_aloadN {i : Nat} (hd : decode mi.2.1 pc = .ok (.aload i, 2)) (hv : jw_lk lc i = some .null) (hp : pc + 2 = pc') (kk : jw_X mi o k kc ks pc' lc (.null :: st) μ hs) : jw_X mi o k kc ks pc lc st μ hs := by
  subst hp; exact fun C H locs ls e1 e2 e3 e4 => lv_aloadN C.1 C.2.1 hd (jw_at e4 hv) (kk C H locs ls e1 e2 e3 e4)
theorem jw_istore_n {n : Fin 4} {i : Nat} {x : Int32} (hd : decode mi.2.1 pc = .ok (.istore_n n, 1)) (hi : (n : Nat) = i) (hn : i < mi.2.2.1) (hl : jw_sb (jw_s1 lc i (.int x)) lc') (hp : pc + 1 = pc') (kk : jw_X mi o k kc ks pc' lc' st μ hs) : jw_X mi o k kc ks pc lc (.int x :: st) μ hs := by
  subst hp; exact fun C H locs ls e1 e2 e3 e4 => lv_istore_n C.1 C.2.1 hd hi e4 hn rfl (fun ls' e5 => kk C H locs ls' e1 e2 e3 (jw_sb_of e5 hl))
theorem jw_istore {i : Nat} {x : Int32} (hd : decode mi.2.1 pc = .ok (.istore i, 2)) (hn : i < mi.2.2.1) (hl : jw_sb (jw_s1 lc i (.int x)) lc') (hp : pc + 2 = pc') (kk : jw_X mi o k kc ks pc' lc' st μ hs) : jw_X mi o k kc ks pc lc (.int x :: st) μ hs := by
  subst hp; exact fun C H locs ls e1 e2 e3 e4 => lv_istore C.1 C.2.1 hd e4 hn rfl (fun ls' e5 => kk C H locs ls' e1 e2 e3 (jw_sb_of e5 hl))
theorem jw_lstore_n {n : Fin 4} {i : Nat} {x : Int64} (hd : decode mi.2.1 pc = .ok (.lstore_n n, 1)) (hi : (n : Nat) = i) (hn : i + 1 < mi.2.2.1) (hl : jw_sb (jw_s2 lc i (.long x)) lc') (hp : pc + 1 = pc') (kk : jw_X mi o k kc ks pc' lc' st μ hs) : jw_X mi o k kc ks pc lc (.long x :: st) μ hs := by
  subst hp; exact fun C H locs ls e1 e2 e3 e4 => lv_lstore_n C.1 C.2.1 hd hi e4 hn rfl (fun ls' e5 => kk C H locs ls' e1 e2 e3 (jw_sb_of e5 hl))
theorem jw_lstore {i : Nat} {x : Int64} (hd : decode mi.2.1 pc = .ok (.lstore i, 2)) (hn : i + 1 < mi.2.2.1) (hl : jw_sb (jw_s2 lc i (.long x)) lc') (hp : pc + 2 = pc') (kk : jw_X mi o k kc ks pc' lc' st μ hs) : jw_X mi o k kc ks pc lc (.long x :: st) μ hs := by
  subst hp; exact fun C H locs ls e1 e2 e3 e4 => lv_lstore C.1 C.2.1 hd e4 hn rfl (fun ls' e5 => kk C H locs ls' e1 e2 e3 (jw_sb_of e5 hl))
theorem jw_astore_n {n : Fin 4} {i x : Nat} (hd : decode mi.2.1 pc = .ok (.astore_n n, 1)) (hi : (n : Nat) = i) (hn : i < mi.2.2.1) (hl : jw_sb (jw_s1 lc i (.ref x)) lc') (hp : pc + 1 = pc') (kk : jw_X mi o k kc ks pc' lc' st μ hs) : jw_X mi o k kc ks pc lc (.ref x :: st) μ hs := by
  subst hp; exact fun C H locs ls e1 e2 e3 e4 => lv_astore_n C.1 C.2.1 hd hi e4 hn rfl (fun ls' e5 => kk C H locs ls' e1 e2 e3 (jw_sb_of e5 hl))
theorem jw_astore {i x : Nat} (hd : decode mi.2.1 pc = .ok (.astore i, 2)) (hn : i < mi.2.2.1) (hl : jw_sb (jw_s1 lc i (.ref x)) lc') (hp : pc + 2 = pc') (kk : jw_X mi o k kc ks pc' lc' st μ hs) : jw_X mi o k kc ks pc lc (.ref x :: st) μ hs := by
  subst hp; exact fun C H locs ls e1 e2 e3 e4 => lv_astore C.1 C.2.1 hd e4 hn rfl (fun ls' e5 => kk C H locs ls' e1 e2 e3 (jw_sb_of e5 hl))
theorem jw_astore_nN {n : Fin 4} {i : Nat} (hd : decode mi.2.1 pc = .ok (.astore_n n, 1)) (hi : (n : Nat) = i) (hn : i < mi.2.2.1) (hl : jw_sb (jw_s1 lc i .null) lc') (hp : pc + 1 = pc') (kk : jw_X mi o k kc ks pc' lc' st μ hs) : jw_X mi o k kc ks pc lc (.null :: st) μ hs := by
  subst hp; exact fun C H locs ls e1 e2 e3 e4 => lv_astore_nN C.1 C.2.1 hd hi e4 hn rfl (fun ls' e5 => kk C H locs ls' e1 e2 e3 (jw_sb_of e5 hl))
theorem jw_astoreN {i : Nat} (hd : decode mi.2.1 pc = .ok (.astore i, 2)) (hn : i < mi.2.2.1) (hl : jw_sb (jw_s1 lc i .null) lc') (hp : pc + 2 = pc') (kk : jw_X mi o k kc ks pc' lc' st μ hs) : jw_X mi o k kc ks pc lc (.null :: st) μ hs := by
  subst hp; exact fun C H locs ls e1 e2 e3 e4 => lv_astoreN C.1 C.2.1 hd e4 hn rfl (fun ls' e5 => kk C H locs ls' e1 e2 e3 (jw_sb_of e5 hl))
theorem jw_iinc {i : Nat} {n : Int} {x v : Int32} (hd : decode mi.2.1 pc = .ok (.iinc i n, 3)) (hv : jw_lk lc i = some (.int x)) (hx : x + Int32.ofInt n = v) (hn : i < mi.2.2.1) (hl : jw_sb (jw_s1 lc i (.int v)) lc') (hp : pc + 3 = pc') (kk : jw_X mi o k kc ks pc' lc' st μ hs) : jw_X mi o k kc ks pc lc st μ hs := by
  subst hp
  intro C H locs ls e1 e2 e3 e4
  obtain ⟨j, hj⟩ := List.getElem?_of_mem (jw_lk_mem hv)
  exact lv_iinc C.1 C.2.1 hd e4 hj hx hn rfl (fun ls' e5 => kk C H locs ls' e1 e2 e3 (jw_sb_of e5 hl))
theorem jw_iadd {x y v : Int32} (hd : decode mi.2.1 pc = .ok (.iadd, 1)) (hv : x + y = v) (hp : pc + 1 = pc') (kk : jw_X mi o k kc ks pc' lc (.int v :: rest) μ hs) : jw_X mi o k kc ks pc lc (.int y :: .int x :: rest) μ hs := by
  subst hp; subst hv; exact fun C H locs ls e1 e2 e3 e4 => lv_iadd C.1 C.2.1 hd (kk C H locs ls e1 e2 e3 e4)
theorem jw_isub {x y v : Int32} (hd : decode mi.2.1 pc = .ok (.isub, 1)) (hv : x - y = v) (hp : pc + 1 = pc') (kk : jw_X mi o k kc ks pc' lc (.int v :: rest) μ hs) : jw_X mi o k kc ks pc lc (.int y :: .int x :: rest) μ hs := by
  subst hp; subst hv; exact fun C H locs ls e1 e2 e3 e4 => lv_isub C.1 C.2.1 hd (kk C H locs ls e1 e2 e3 e4)
theorem jw_imul {x y v : Int32} (hd : decode mi.2.1 pc = .ok (.imul, 1)) (hv : x * y = v) (hp : pc + 1 = pc') (kk : jw_X mi o k kc ks pc' lc (.int v :: rest) μ hs) : jw_X mi o k kc ks pc lc (.int y :: .int x :: rest) μ hs := by
  subst hp; subst hv; exact fun C H locs ls e1 e2 e3 e4 => lv_imul C.1 C.2.1 hd (kk C H locs ls e1 e2 e3 e4)
theorem jw_iand {x y v : Int32} (hd : decode mi.2.1 pc = .ok (.iand, 1)) (hv : x &&& y = v) (hp : pc + 1 = pc') (kk : jw_X mi o k kc ks pc' lc (.int v :: rest) μ hs) : jw_X mi o k kc ks pc lc (.int y :: .int x :: rest) μ hs := by
  subst hp; subst hv; exact fun C H locs ls e1 e2 e3 e4 => lv_iand C.1 C.2.1 hd (kk C H locs ls e1 e2 e3 e4)
theorem jw_ior {x y v : Int32} (hd : decode mi.2.1 pc = .ok (.ior, 1)) (hv : x ||| y = v) (hp : pc + 1 = pc') (kk : jw_X mi o k kc ks pc' lc (.int v :: rest) μ hs) : jw_X mi o k kc ks pc lc (.int y :: .int x :: rest) μ hs := by
  subst hp; subst hv; exact fun C H locs ls e1 e2 e3 e4 => lv_ior C.1 C.2.1 hd (kk C H locs ls e1 e2 e3 e4)
theorem jw_idiv {x y v : Int32} (hd : decode mi.2.1 pc = .ok (.idiv, 1)) (h0 : ¬ y = 0) (hv : x / y = v) (hp : pc + 1 = pc') (kk : jw_X mi o k kc ks pc' lc (.int v :: rest) μ hs) : jw_X mi o k kc ks pc lc (.int y :: .int x :: rest) μ hs := by
  subst hp; subst hv; exact fun C H locs ls e1 e2 e3 e4 => lv_idiv C.1 C.2.1 hd h0 (kk C H locs ls e1 e2 e3 e4)
theorem jw_irem {x y v : Int32} (hd : decode mi.2.1 pc = .ok (.irem, 1)) (h0 : ¬ y = 0) (hv : x - x / y * y = v) (hp : pc + 1 = pc') (kk : jw_X mi o k kc ks pc' lc (.int v :: rest) μ hs) : jw_X mi o k kc ks pc lc (.int y :: .int x :: rest) μ hs := by
  subst hp; subst hv; exact fun C H locs ls e1 e2 e3 e4 => lv_irem C.1 C.2.1 hd h0 (kk C H locs ls e1 e2 e3 e4)
theorem jw_ishl {x y v : Int32} (hd : decode mi.2.1 pc = .ok (.ishl, 1)) (hv : x <<< (y &&& 31) = v) (hp : pc + 1 = pc') (kk : jw_X mi o k kc ks pc' lc (.int v :: rest) μ hs) : jw_X mi o k kc ks pc lc (.int y :: .int x :: rest) μ hs := by
  subst hp; subst hv; exact fun C H locs ls e1 e2 e3 e4 => lv_ishl C.1 C.2.1 hd (kk C H locs ls e1 e2 e3 e4)
theorem jw_ishr {x y v : Int32} (hd : decode mi.2.1 pc = .ok (.ishr, 1)) (hv : x >>> (y &&& 31) = v) (hp : pc + 1 = pc') (kk : jw_X mi o k kc ks pc' lc (.int v :: rest) μ hs) : jw_X mi o k kc ks pc lc (.int y :: .int x :: rest) μ hs := by
  subst hp; subst hv; exact fun C H locs ls e1 e2 e3 e4 => lv_ishr C.1 C.2.1 hd (kk C H locs ls e1 e2 e3 e4)
theorem jw_iushr {x y v : Int32} (hd : decode mi.2.1 pc = .ok (.iushr, 1)) (hv : (x.toUInt32 >>> (y.toUInt32 &&& Int32.toUInt32 31)).toInt32 = v) (hp : pc + 1 = pc') (kk : jw_X mi o k kc ks pc' lc (.int v :: rest) μ hs) : jw_X mi o k kc ks pc lc (.int y :: .int x :: rest) μ hs := by
  subst hp; exact fun C H locs ls e1 e2 e3 e4 => lv_iushr C.1 C.2.1 hd hv (kk C H locs ls e1 e2 e3 e4)
theorem jw_ldcw {idx : Nat} {v : Int32} (hd : decode mi.2.1 pc = .ok (.ldc_w idx, 3)) (hw : Cond.constant mi.1.cls idx v ∈ jw_T) (hp : pc + 3 = pc') (kk : jw_X mi o k kc ks pc' lc (.int v :: st) μ hs) : jw_X mi o k kc ks pc lc st μ hs := by
  subst hp; exact fun C H locs ls e1 e2 e3 e4 => lv_ldcw C.1 C.2.1 C.2.2.2.2.1 (C.2.2.2.2.2.1 _ hw) hd (kk C H locs ls e1 e2 e3 e4)
theorem jw_ladd {x y v : Int64} (hd : decode mi.2.1 pc = .ok (.ladd, 1)) (hv : x + y = v) (hp : pc + 1 = pc') (kk : jw_X mi o k kc ks pc' lc (.long v :: rest) μ hs) : jw_X mi o k kc ks pc lc (.long y :: .long x :: rest) μ hs := by
  subst hp; subst hv; exact fun C H locs ls e1 e2 e3 e4 => lv_ladd C.1 C.2.1 hd (kk C H locs ls e1 e2 e3 e4)
theorem jw_lmul {x y v : Int64} (hd : decode mi.2.1 pc = .ok (.lmul, 1)) (hv : x * y = v) (hp : pc + 1 = pc') (kk : jw_X mi o k kc ks pc' lc (.long v :: rest) μ hs) : jw_X mi o k kc ks pc lc (.long y :: .long x :: rest) μ hs := by
  subst hp; subst hv; exact fun C H locs ls e1 e2 e3 e4 => lv_lmul C.1 C.2.1 hd (kk C H locs ls e1 e2 e3 e4)
theorem jw_i2l {x : Int32} {v : Int64} (hd : decode mi.2.1 pc = .ok (.i2l, 1)) (hv : x.toInt64 = v) (hp : pc + 1 = pc') (kk : jw_X mi o k kc ks pc' lc (.long v :: rest) μ hs) : jw_X mi o k kc ks pc lc (.int x :: rest) μ hs := by
  subst hp; exact fun C H locs ls e1 e2 e3 e4 => lv_i2l C.1 C.2.1 hd hv (kk C H locs ls e1 e2 e3 e4)
theorem jw_i2d {x : Int32} (hd : decode mi.2.1 pc = .ok (.i2d, 1)) (hp : pc + 1 = pc') (kk : jw_X mi o k kc ks pc' lc (.double (FP.i2d x) :: rest) μ hs) : jw_X mi o k kc ks pc lc (.int x :: rest) μ hs := by
  subst hp; exact fun C H locs ls e1 e2 e3 e4 => lv_i2d C.1 C.2.1 hd (kk C H locs ls e1 e2 e3 e4)
theorem jw_dconst0  (hd : decode mi.2.1 pc = .ok (.dconst 0, 1)) (hp : pc + 1 = pc') (kk : jw_X mi o k kc ks pc' lc (.double FP.dconst0 :: st) μ hs) : jw_X mi o k kc ks pc lc st μ hs := by
  subst hp; exact fun C H locs ls e1 e2 e3 e4 => lv_dconst0 C.1 C.2.1 hd (kk C H locs ls e1 e2 e3 e4)
theorem jw_lcmp {x y : Int64} {v : Int32} (hd : decode mi.2.1 pc = .ok (.lcmp, 1)) (hv : lg_cmp x y = v) (hp : pc + 1 = pc') (kk : jw_X mi o k kc ks pc' lc (.int v :: rest) μ hs) : jw_X mi o k kc ks pc lc (.long y :: .long x :: rest) μ hs := by
  subst hp; subst hv; exact fun C H locs ls e1 e2 e3 e4 => W.lcmp C.1 C.2.1 hd (kk C H locs ls e1 e2 e3 e4)
theorem jw_dcmp {x y : UInt64} {op : CmpOp} {v : Int32} (hd : decode mi.2.1 pc = .ok (.dcmp op, 1)) (hv : Op.cmpValue (FP.dcmp x y) op = v) (hp : pc + 1 = pc') (kk : jw_X mi o k kc ks pc' lc (.int v :: rest) μ hs) : jw_X mi o k kc ks pc lc (.double y :: .double x :: rest) μ hs := by
  subst hp; subst hv; exact fun C H locs ls e1 e2 e3 e4 => lv_dcmp C.1 C.2.1 hd (kk C H locs ls e1 e2 e3 e4)
theorem jw_dup {v : Value} (hd : decode mi.2.1 pc = .ok (.dup, 1)) (hc : v.category = 1) (hp : pc + 1 = pc') (kk : jw_X mi o k kc ks pc' lc (v :: v :: rest) μ hs) : jw_X mi o k kc ks pc lc (v :: rest) μ hs := by
  subst hp; exact fun C H locs ls e1 e2 e3 e4 => lv_dup C.1 C.2.1 hd hc (kk C H locs ls e1 e2 e3 e4)
theorem jw_pop {v : Value} (hd : decode mi.2.1 pc = .ok (.pop, 1)) (hc : v.category = 1) (hp : pc + 1 = pc') (kk : jw_X mi o k kc ks pc' lc rest μ hs) : jw_X mi o k kc ks pc lc (v :: rest) μ hs := by
  subst hp; exact fun C H locs ls e1 e2 e3 e4 => lv_pop C.1 C.2.1 hd hc (kk C H locs ls e1 e2 e3 e4)
theorem jw_dup_x1 {v w : Value} (hd : decode mi.2.1 pc = .ok (.dup_x1, 1)) (hc : v.category = 1) (hc2 : w.category = 1) (hp : pc + 1 = pc') (kk : jw_X mi o k kc ks pc' lc (v :: w :: v :: rest) μ hs) : jw_X mi o k kc ks pc lc (v :: w :: rest) μ hs := by
  subst hp; exact fun C H locs ls e1 e2 e3 e4 => lv_dup_x1 C.1 C.2.1 hd hc hc2 (kk C H locs ls e1 e2 e3 e4)
theorem jw_dup2 {v w : Value} (hd : decode mi.2.1 pc = .ok (.dup2, 1)) (hc : v.category = 1) (hc2 : w.category = 1) (hp : pc + 1 = pc') (kk : jw_X mi o k kc ks pc' lc (v :: w :: v :: w :: rest) μ hs) : jw_X mi o k kc ks pc lc (v :: w :: rest) μ hs := by
  subst hp; exact fun C H locs ls e1 e2 e3 e4 => lv_dup2_11 C.1 C.2.1 hd hc hc2 (kk C H locs ls e1 e2 e3 e4)
theorem jw_if_eq {x : Int32} {off : Int} {tgt : Nat} (hd : decode mi.2.1 pc = .ok (.ifCond .eq off, 3)) (ht : (pc : Int) + off = (tgt : Int)) (hp : pc + 3 = pc') (kt : x = 0 → jw_X mi o k kc ks tgt lc rest μ hs) (kf : ¬ x = 0 → jw_X mi o k kc ks pc' lc rest μ hs) : jw_X mi o k kc ks pc lc (.int x :: rest) μ hs := by
  subst hp; exact fun C H locs ls e1 e2 e3 e4 => lv_if_eq C.1 C.2.1 hd ht (fun q => kt q C H locs ls e1 e2 e3 e4) (fun q => kf q C H locs ls e1 e2 e3 e4)
theorem jw_icmp_eq {x y : Int32} {off : Int} {tgt : Nat} (hd : decode mi.2.1 pc = .ok (.if_icmp .eq off, 3)) (ht : (pc : Int) + off = (tgt : Int)) (hp : pc + 3 = pc') (kt : x = y → jw_X mi o k kc ks tgt lc rest μ hs) (kf : ¬ x = y → jw_X mi o k kc ks pc' lc rest μ hs) : jw_X mi o k kc ks pc lc (.int y :: .int x :: rest) μ hs := by
  subst hp; exact fun C H locs ls e1 e2 e3 e4 => lv_icmp_eq C.1 C.2.1 hd ht (fun q => kt q C H locs ls e1 e2 e3 e4) (fun q => kf q C H locs ls e1 e2 e3 e4)
theorem jw_if_ne {x : Int32} {off : Int} {tgt : Nat} (hd : decode mi.2.1 pc = .ok (.ifCond .ne off, 3)) (ht : (pc : Int) + off = (tgt : Int)) (hp : pc + 3 = pc') (kt : ¬ x = 0 → jw_X mi o k kc ks tgt lc rest μ hs) (kf : x = 0 → jw_X mi o k kc ks pc' lc rest μ hs) : jw_X mi o k kc ks pc lc (.int x :: rest) μ hs := by
  subst hp; exact fun C H locs ls e1 e2 e3 e4 => lv_if_ne C.1 C.2.1 hd ht (fun q => kt q C H locs ls e1 e2 e3 e4) (fun q => kf q C H locs ls e1 e2 e3 e4)
theorem jw_icmp_ne {x y : Int32} {off : Int} {tgt : Nat} (hd : decode mi.2.1 pc = .ok (.if_icmp .ne off, 3)) (ht : (pc : Int) + off = (tgt : Int)) (hp : pc + 3 = pc') (kt : ¬ x = y → jw_X mi o k kc ks tgt lc rest μ hs) (kf : x = y → jw_X mi o k kc ks pc' lc rest μ hs) : jw_X mi o k kc ks pc lc (.int y :: .int x :: rest) μ hs := by
  subst hp; exact fun C H locs ls e1 e2 e3 e4 => lv_icmp_ne C.1 C.2.1 hd ht (fun q => kt q C H locs ls e1 e2 e3 e4) (fun q => kf q C H locs ls e1 e2 e3 e4)
theorem jw_if_lt {x : Int32} {off : Int} {tgt : Nat} (hd : decode mi.2.1 pc = .ok (.ifCond .lt off, 3)) (ht : (pc : Int) + off = (tgt : Int)) (hp : pc + 3 = pc') (kt : x < 0 → jw_X mi o k kc ks tgt lc rest μ hs) (kf : ¬ x < 0 → jw_X mi o k kc ks pc' lc rest μ hs) : jw_X mi o k kc ks pc lc (.int x :: rest) μ hs := by
  subst hp; exact fun C H locs ls e1 e2 e3 e4 => lv_if_lt C.1 C.2.1 hd ht (fun q => kt q C H locs ls e1 e2 e3 e4) (fun q => kf q C H locs ls e1 e2 e3 e4)
theorem jw_icmp_lt {x y : Int32} {off : Int} {tgt : Nat} (hd : decode mi.2.1 pc = .ok (.if_icmp .lt off, 3)) (ht : (pc : Int) + off = (tgt : Int)) (hp : pc + 3 = pc') (kt : x < y → jw_X mi o k kc ks tgt lc rest μ hs) (kf : ¬ x < y → jw_X mi o k kc ks pc' lc rest μ hs) : jw_X mi o k kc ks pc lc (.int y :: .int x :: rest) μ hs := by
  subst hp; exact fun C H locs ls e1 e2 e3 e4 => lv_icmp_lt C.1 C.2.1 hd ht (fun q => kt q C H locs ls e1 e2 e3 e4) (fun q => kf q C H locs ls e1 e2 e3 e4)
theorem jw_if_ge {x : Int32} {off : Int} {tgt : Nat} (hd : decode mi.2.1 pc = .ok (.ifCond .ge off, 3)) (ht : (pc : Int) + off = (tgt : Int)) (hp : pc + 3 = pc') (kt : 0 ≤ x → jw_X mi o k kc ks tgt lc rest μ hs) (kf : ¬ 0 ≤ x → jw_X mi o k kc ks pc' lc rest μ hs) : jw_X mi o k kc ks pc lc (.int x :: rest) μ hs := by
  subst hp; exact fun C H locs ls e1 e2 e3 e4 => lv_if_ge C.1 C.2.1 hd ht (fun q => kt q C H locs ls e1 e2 e3 e4) (fun q => kf q C H locs ls e1 e2 e3 e4)
theorem jw_icmp_ge {x y : Int32} {off : Int} {tgt : Nat} (hd : decode mi.2.1 pc = .ok (.if_icmp .ge off, 3)) (ht : (pc : Int) + off = (tgt : Int)) (hp : pc + 3 = pc') (kt : y ≤ x → jw_X mi o k kc ks tgt lc rest μ hs) (kf : ¬ y ≤ x → jw_X mi o k kc ks pc' lc rest μ hs) : jw_X mi o k kc ks pc lc (.int y :: .int x :: rest) μ hs := by
  subst hp; exact fun C H locs ls e1 e2 e3 e4 => lv_icmp_ge C.1 C.2.1 hd ht (fun q => kt q C H locs ls e1 e2 e3 e4) (fun q => kf q C H locs ls e1 e2 e3 e4)
theorem jw_if_gt {x : Int32} {off : Int} {tgt : Nat} (hd : decode mi.2.1 pc = .ok (.ifCond .gt off, 3)) (ht : (pc : Int) + off = (tgt : Int)) (hp : pc + 3 = pc') (kt : 0 < x → jw_X mi o k kc ks tgt lc rest μ hs) (kf : ¬ 0 < x → jw_X mi o k kc ks pc' lc rest μ hs) : jw_X mi o k kc ks pc lc (.int x :: rest) μ hs := by
  subst hp; exact fun C H locs ls e1 e2 e3 e4 => lv_if_gt C.1 C.2.1 hd ht (fun q => kt q C H locs ls e1 e2 e3 e4) (fun q => kf q C H locs ls e1 e2 e3 e4)
theorem jw_icmp_gt {x y : Int32} {off : Int} {tgt : Nat} (hd : decode mi.2.1 pc = .ok (.if_icmp .gt off, 3)) (ht : (pc : Int) + off = (tgt : Int)) (hp : pc + 3 = pc') (kt : y < x → jw_X mi o k kc ks tgt lc rest μ hs) (kf : ¬ y < x → jw_X mi o k kc ks pc' lc rest μ hs) : jw_X mi o k kc ks pc lc (.int y :: .int x :: rest) μ hs := by
  subst hp; exact fun C H locs ls e1 e2 e3 e4 => lv_icmp_gt C.1 C.2.1 hd ht (fun q => kt q C H locs ls e1 e2 e3 e4) (fun q => kf q C H locs ls e1 e2 e3 e4)
theorem jw_if_le {x : Int32} {off : Int} {tgt : Nat} (hd : decode mi.2.1 pc = .ok (.ifCond .le off, 3)) (ht : (pc : Int) + off = (tgt : Int)) (hp : pc + 3 = pc') (kt : x ≤ 0 → jw_X mi o k kc ks tgt lc rest μ hs) (kf : ¬ x ≤ 0 → jw_X mi o k kc ks pc' lc rest μ hs) : jw_X mi o k kc ks pc lc (.int x :: rest) μ hs := by
  subst hp; exact fun C H locs ls e1 e2 e3 e4 => lv_if_le C.1 C.2.1 hd ht (fun q => kt q C H locs ls e1 e2 e3 e4) (fun q => kf q C H locs ls e1 e2 e3 e4)
theorem jw_icmp_le {x y : Int32} {off : Int} {tgt : Nat} (hd : decode mi.2.1 pc = .ok (.if_icmp .le off, 3)) (ht : (pc : Int) + off = (tgt : Int)) (hp : pc + 3 = pc') (kt : x ≤ y → jw_X mi o k kc ks tgt lc rest μ hs) (kf : ¬ x ≤ y → jw_X mi o k kc ks pc' lc rest μ hs) : jw_X mi o k kc ks pc lc (.int y :: .int x :: rest) μ hs := by
  subst hp; exact fun C H locs ls e1 e2 e3 e4 => lv_icmp_le C.1 C.2.1 hd ht (fun q => kt q C H locs ls e1 e2 e3 e4) (fun q => kf q C H locs ls e1 e2 e3 e4)
theorem jw_goto {off : Int} {tgt : Nat} (hd : decode mi.2.1 pc = .ok (.goto off, 3)) (ht : (pc : Int) + off = (tgt : Int)) (kk : jw_X mi o k kc ks tgt lc st μ hs) : jw_X mi o k kc ks pc lc st μ hs := fun C H locs ls e1 e2 e3 e4 => lv_goto C.1 C.2.1 hd ht (kk C H locs ls e1 e2 e3 e4)
theorem jw_ifnull {x : Nat} {off : Int} (hd : decode mi.2.1 pc = .ok (.ifnull off, 3)) (hp : pc + 3 = pc') (kk : jw_X mi o k kc ks pc' lc rest μ hs) : jw_X mi o k kc ks pc lc (.ref x :: rest) μ hs := by
  subst hp; exact fun C H locs ls e1 e2 e3 e4 => lv_ifnull C.1 C.2.1 hd (kk C H locs ls e1 e2 e3 e4)
theorem jw_ifnullN {off : Int} {tgt : Nat} (hd : decode mi.2.1 pc = .ok (.ifnull off, 3)) (ht : (pc : Int) + off = (tgt : Int)) (kk : jw_X mi o k kc ks tgt lc rest μ hs) : jw_X mi o k kc ks pc lc (.null :: rest) μ hs := fun C H locs ls e1 e2 e3 e4 => lv_ifnullN C.1 C.2.1 hd ht (kk C H locs ls e1 e2 e3 e4)
theorem jw_ifnonnull {x : Nat} {off : Int} {tgt : Nat} (hd : decode mi.2.1 pc = .ok (.ifnonnull off, 3)) (ht : (pc : Int) + off = (tgt : Int)) (kk : jw_X mi o k kc ks tgt lc rest μ hs) : jw_X mi o k kc ks pc lc (.ref x :: rest) μ hs := fun C H locs ls e1 e2 e3 e4 => lv_ifnonnull C.1 C.2.1 hd ht (kk C H locs ls e1 e2 e3 e4)
theorem jw_ifnonnullN {off : Int} (hd : decode mi.2.1 pc = .ok (.ifnonnull off, 3)) (hp : pc + 3 = pc') (kk : jw_X mi o k kc ks pc' lc rest μ hs) : jw_X mi o k kc ks pc lc (.null :: rest) μ hs := by
  subst hp; exact fun C H locs ls e1 e2 e3 e4 => lv_ifnonnullN C.1 C.2.1 hd (kk C H locs ls e1 e2 e3 e4)
theorem jw_acmp_eq {rx ry : Option Nat} {off : Int} {tgt : Nat} (hd : decode mi.2.1 pc = .ok (.if_acmp .eq off, 3)) (ht : (pc : Int) + off = (tgt : Int)) (hp : pc + 3 = pc') (kt : rx = ry → jw_X mi o k kc ks tgt lc rest μ hs) (kf : ¬ rx = ry → jw_X mi o k kc ks pc' lc rest μ hs) : jw_X mi o k kc ks pc lc (va_rf ry :: va_rf rx :: rest) μ hs := by
  subst hp; exact fun C H locs ls e1 e2 e3 e4 => lv_acmp_eq C.1 C.2.1 hd ht (fun q => kt q C H locs ls e1 e2 e3 e4) (fun q => kf q C H locs ls e1 e2 e3 e4)
theorem jw_acmp_ne {rx ry : Option Nat} {off : Int} {tgt : Nat} (hd : decode mi.2.1 pc = .ok (.if_acmp .ne off, 3)) (ht : (pc : Int) + off = (tgt : Int)) (hp : pc + 3 = pc') (kt : ¬ rx = ry → jw_X mi o k kc ks tgt lc rest μ hs) (kf : rx = ry → jw_X mi o k kc ks pc' lc rest μ hs) : jw_X mi o k kc ks pc lc (va_rf ry :: va_rf rx :: rest) μ hs := by
  subst hp; exact fun C H locs ls e1 e2 e3 e4 => lv_acmp_ne C.1 C.2.1 hd ht (fun q => kt q C H locs ls e1 e2 e3 e4) (fun q => kf q C H locs ls e1 e2 e3 e4)
theorem jw_tableIn {dflt lo hi : Int} {offs : Array Int} {len : Nat} {x : Int32} {off : Int} {tgt : Nat} (hd : decode mi.2.1 pc = .ok (.tableswitch dflt lo hi offs, len)) (h1 : ¬ x.toInt < lo) (h2 : ¬ hi < x.toInt) (ho : offs[(x.toInt - lo).toNat]? = some off) (ht : (pc : Int) + off = (tgt : Int)) (kk : jw_X mi o k kc ks tgt lc rest μ hs) : jw_X mi o k kc ks pc lc (.int x :: rest) μ hs := fun C H locs ls e1 e2 e3 e4 => lv_tableIn C.1 C.2.1 hd h1 h2 ho ht (kk C H locs ls e1 e2 e3 e4)
theorem jw_tableOut {dflt lo hi : Int} {offs : Array Int} {len : Nat} {x : Int32} {tgt : Nat} (hd : decode mi.2.1 pc = .ok (.tableswitch dflt lo hi offs, len)) (h : x.toInt < lo ∨ hi < x.toInt) (ht : (pc : Int) + dflt = (tgt : Int)) (kk : jw_X mi o k kc ks tgt lc rest μ hs) : jw_X mi o k kc ks pc lc (.int x :: rest) μ hs := fun C H locs ls e1 e2 e3 e4 => lv_tableOut C.1 C.2.1 hd h ht (kk C H locs ls e1 e2 e3 e4)
theorem jw_lookup {dflt : Int} {ps : Array (Int × Int)} {len : Nat} {x : Int32} {off : Int} {tgt : Nat} (hd : decode mi.2.1 pc = .ok (.lookupswitch dflt ps, len)) (hp : (ps.toList.zip (ps.toList.drop 1)).all (fun (a, next) => a.1 < next.1) = true) (ho : Op.lookupswitch.offset ps.toList dflt x.toInt = off) (ht : (pc : Int) + off = (tgt : Int)) (kk : jw_X mi o k kc ks tgt lc rest μ hs) : jw_X mi o k kc ks pc lc (.int x :: rest) μ hs := fun C H locs ls e1 e2 e3 e4 => lv_lookup C.1 C.2.1 hd hp ho ht (kk C H locs ls e1 e2 e3 e4)
theorem jw_Cx.hK (C : jw_Cx mi o k) : va_K o.2.1 jw_cl (jw_tys o.2.2.1) k.2.2.2.1 := C.2.2.2.2.2.2.2.2.1
theorem jw_Cx.ts (C : jw_Cx mi o k) : ∀ w ∈ jw_T, w.before k.2.2.2.2.2.1 k.2.2.2.1 = true := C.2.2.2.2.2.1
theorem jw_Cx.own (C : jw_Cx mi o k) : k.2.2.2.1.vm.findClass mi.1.cls = some k.2.2.2.2.1.cls := C.2.2.2.2.1
theorem jw_Cx.S (C : jw_Cx mi o k) : jw_S k.2.2.2.1 := C.2.2.2.2.2.2.2.2.2.1
theorem jw_Cx.lo (C : jw_Cx mi o k) : o.2.2.2.1 ≤ k.2.2.2.1.heap.size := C.2.2.2.2.2.2.2.2.2.2.1
theorem jw_Cx.xB (C : jw_Cx mi o k) : jw_xB o k.2.2.2.1 k.2.2.2.1.heap := C.2.2.2.2.2.2.2.2.2.2.2
theorem jw_one {H : Heap} {a : Nat} {e : va_E} (h : jw_H o μ H) (ha : μ a = some e) : va_P o.2.1 jw_cl [(a, e)] H := by
  intro j q hj
  have hl : j < 1 := (List.getElem?_eq_some_iff.mp hj).1
  rw [show j = 0 by omega] at hj
  cases hj
  exact (h a e ha).2
theorem jw_H.put {H H1 : Heap} {a : Nat} {e0 e : va_E} (h : jw_H o μ H) (ha : μ a = some e0) (he : va_at o.2.1 jw_cl (a, e) H1) (oq : ∀ q : Nat, q ≠ a → H1[q]? = H[q]?) : jw_H o (va_up μ a (some e)) H1 := by
  have hlo := (h a e0 ha).1
  intro b x hb
  by_cases hba : b = a
  · subst hba
    rw [va_up_self] at hb
    cases hb
    exact ⟨hlo, he⟩
  · rw [va_up_ne _ _ hba] at hb
    exact ⟨(h b x hb).1, (h b x hb).2.kept (oq b hba)⟩
theorem jw_H.push {H H1 : Heap} {e : va_E} (h : jw_H o μ H) (hlo : o.2.2.2.1 ≤ H.size) (he : va_at o.2.1 jw_cl (H.size, e) H1) (oq : ∀ q : Nat, q < H.size → H1[q]? = H[q]?) : jw_H o (va_up μ H.size (some e)) H1 := by
  intro b x hb
  by_cases hba : b = H.size
  · subst hba
    rw [va_up_self] at hb
    cases hb
    exact ⟨hlo, he⟩
  · rw [va_up_ne _ _ hba] at hb
    exact ⟨(h b x hb).1, (h b x hb).2.kept (oq b ((h b x hb).2.lt))⟩
theorem jw_grow {H H1 : Heap} {H0 : Heap} {locs : List Loc} {A : Nat → Prop} (hS : va_S A H0 H locs) (z1 : H1.size = H.size + 1) (o1 : ∀ q : Nat, q < H.size → H1[q]? = H[q]?) : va_S A H0 H1 locs := ⟨Nat.le_trans hS.1 (by omega), fun x h1 h2 => (o1 x (Nat.lt_of_lt_of_le h1 hS.1)).trans (hS.2.1 x h1 h2), hS.2.2⟩
theorem jw_get {a ci kf N idx : Nat} {fs : List Value} {C : String} {T : u_T} {v : Value} (hc : jw_cl[ci]? = some (C, T, N)) (hk : kf < N) (hw : Cond.fieldLink mi.1.cls idx (T kf).1 (T kf).2.1 (T kf).2.2.1 ∈ jw_T) (hd : decode mi.2.1 pc = .ok (.getfield idx, 3)) (ha : μ a = some (.inr (ci, fs))) (hv : fs[kf]? = some v) (hp : pc + 3 = pc') (kk : jw_X mi o k kc ks pc' lc (v :: rest) μ hs) : jw_X mi o k kc ks pc lc (.ref a :: rest) μ hs := by
  subst hp
  exact fun C0 H locs ls e1 e2 e3 e4 => va_get C0.1 C0.2.1 C0.ts (jw_cw _ (List.mem_of_getElem? hc)) C0.own C0.hK (jw_one e2 ha) 0 rfl hc kf hk (C0.ts _ hw) (fun _ h9 => h9) hv hd (kk C0 H locs ls e1 e2 e3 e4)
theorem jw_put {a ci kf N idx : Nat} {fs fs' : List Value} {C : String} {T : u_T} {v : Value} {ty : FieldType} (hc : jw_cl[ci]? = some (C, T, N)) (hk : kf < N) (hw : Cond.fieldLink mi.1.cls idx (T kf).1 (T kf).2.1 (T kf).2.2.1 ∈ jw_T) (hd : decode mi.2.1 pc = .ok (.putfield idx, 3)) (hfin : (T kf).2.2.2 = false) (hty : parseFieldDescriptor (T kf).2.2.1 = some ty) (ha : μ a = some (.inr (ci, fs))) (hn : narrow ty v = v) (hfit : fits ty v = true) (hfs : fs.set kf v = fs') (hl : kf < fs.length) (hp : pc + 3 = pc') (kk : ∀ μ' : jw_Mem, μ' a = some (.inr (ci, fs')) → (∀ q, q ≠ a → μ' q = μ q) → jw_X mi o k kc ks pc' lc rest μ' hs) : jw_X mi o k kc ks pc lc (v :: .ref a :: rest) μ hs := by
  subst hp; subst hfs
  intro C0 H locs ls e1 e2 e3 e4
  have hts := C0.ts
  have hin := jw_cw _ (List.mem_of_getElem? hc)
  have hap := va_apart (own := mi.1.cls) hts hin (jw_ty0 T) (jw_tyok _ (List.mem_of_getElem? hc)) (jw_nmok _ (List.mem_of_getElem? hc)) C0.hK hc
  obtain ⟨r, h1, cell, q1, q2, q3, q4⟩ := (e2 a _ ha).2
  have hr : r = (C, T, N) := Option.some.inj (h1.symm.trans hc)
  subst hr
  obtain ⟨hS, hfc, kC, hkC, hkind⟩ := C0.hK.1 ci _ hc
  obtain ⟨cf, kf1, fi, f, hi, hsl⟩ := hS kf hk
  have hlay := hts _ (hin _ (u_in_lay hk))
  unfold u_lay at hlay
  rw [if_neg (by rw [hfin]; decide)] at hlay
  have hst := (u_facts hfc hkC (u_lays hts hin hk) hi).1
  have h6 := u_store hfc hkC hkind hlay hi hty hn hfit
  refine W.putK C0.1 C0.2.1 (f := f) ⟨C0.own, hts _ hw, ⟨_, _, _, hi⟩, hst⟩ (by rw [q2]; exact h6) q1 q3 (by rw [hsl]; exact k2_hasslot (q4 kf hk)) rfl rfl hd fun H' g1 g2 g3 => ?_
  rw [hsl] at g1 ⊢
  exact kk _ (va_up_self _ _ _) (fun q hq => va_up_ne _ _ hq) C0 H' _ ls (g2.trans e1) (e2.put ha ⟨_, hc, t_OB.to (V := updV (vp_V fs) kf v) ⟨_, g1, q2, q3, t_set q4 hap hk v⟩ (fun j _ => vp_updV_set hl v j)⟩ g3) (e3.put g2 g3 (e2 a _ ha).1) e4
theorem jw_putF {a ci kf N idx : Nat} {fs fs' : List Value} {C : String} {T : u_T} {v : Value} {ty : FieldType} (hc : jw_cl[ci]? = some (C, T, N)) (hk : kf < N) (hw : Cond.fieldLink mi.1.cls idx (T kf).1 (T kf).2.1 (T kf).2.2.1 ∈ jw_T) (hd : decode mi.2.1 pc = .ok (.putfield idx, 3)) (hfin : (T kf).2.2.2 = true) (hin2 : mi.1.name = "<init>") (hdecl : (T kf).1 = mi.1.cls) (hty : parseFieldDescriptor (T kf).2.2.1 = some ty) (ha : μ a = some (.inr (ci, fs))) (hn : narrow ty v = v) (hfit : fits ty v = true) (hfs : fs.set kf v = fs') (hl : kf < fs.length) (hp : pc + 3 = pc') (kk : ∀ μ' : jw_Mem, μ' a = some (.inr (ci, fs')) → (∀ q, q ≠ a → μ' q = μ q) → jw_X mi o k kc ks pc' lc rest μ' hs) : jw_X mi o k kc ks pc lc (v :: .ref a :: rest) μ hs := by
  subst hp; subst hfs
  intro C0 H locs ls e1 e2 e3 e4
  have hts := C0.ts
  have hin := jw_cw _ (List.mem_of_getElem? hc)
  have hap := va_apart (own := mi.1.cls) hts hin (jw_ty0 T) (jw_tyok _ (List.mem_of_getElem? hc)) (jw_nmok _ (List.mem_of_getElem? hc)) C0.hK hc
  obtain ⟨r, h1, cell, q1, q2, q3, q4⟩ := (e2 a _ ha).2
  have hr : r = (C, T, N) := Option.some.inj (h1.symm.trans hc)
  subst hr
  obtain ⟨hS, hfc, kC, hkC, hkind⟩ := C0.hK.1 ci _ hc
  obtain ⟨cf, kf1, fi, f, hi, hsl⟩ := hS kf hk
  have hlay := hts _ (hin _ (u_in_lay hk))
  unfold u_lay at hlay
  rw [if_pos hfin] at hlay
  have hst := (u_facts hfc hkC (u_lays hts hin hk) hi).1
  have hcf : k.2.2.2.2.1.cls = cf := by
    obtain ⟨_, _, c', _, _, _, -, -, hf', -, -, -, hown2, -⟩ := Cond.laysFinal_spec hlay
    have x1 : c' = cf := by have := hi.symm.trans hf'; simp at this; exact this.1.symm
    rw [hdecl] at hown2
    rw [← x1]; exact Option.some.inj (C0.own.symm.trans hown2)
  have h6 := u_fits hfc hkC hkind (Or.inr hlay) hi hty hn hfit
  refine W.putFinK C0.1 C0.2.1 C0.own (hts _ hw) hi hst hcf (C0.2.2.2.2.2.2.2.1.trans hin2) (by rw [q2]; exact h6) q1 q3 (by rw [hsl]; exact k2_hasslot (q4 kf hk)) rfl rfl hd fun H' g1 g2 g3 => ?_
  rw [hsl] at g1 ⊢
  exact kk _ (va_up_self _ _ _) (fun q hq => va_up_ne _ _ hq) C0 H' _ ls (g2.trans e1) (e2.put ha ⟨_, hc, t_OB.to (V := updV (vp_V fs) kf v) ⟨_, g1, q2, q3, t_set q4 hap hk v⟩ (fun j _ => vp_updV_set hl v j)⟩ g3) (e3.put g2 g3 (e2 a _ ha).1) e4
theorem jw_new {d mc ms ci N idx : Nat} {C : String} {T : u_T} {fs : List Value} (hR : jw_Rm k d mc ms) (hc : jw_cl[ci]? = some (C, T, N)) (hw1 : Cond.classLink mi.1.cls idx C ∈ jw_T) (hw2 : Cond.instantiable C N ∈ jw_T) (hw3 : Cond.initialized C ∈ jw_T) (hd : decode mi.2.1 pc = .ok (.new idx, 3)) (hfs : (List.range N).all (fun j => decide (defaultValue (jw_ty0 T j) = vp_V fs j)) = true) (h1 : kc + 1 ≤ mc) (h2 : ks + N ≤ ms) (hp : pc + 3 = pc') (kk : ∀ μ' : jw_Mem, μ' hs = some (.inr (ci, fs)) → (∀ q, q ≠ hs → μ' q = μ q) → jw_X mi o k (kc + 1) (ks + N) pc' lc (.ref hs :: st) μ' (hs + 1)) : jw_X mi o k kc ks pc lc st μ hs := by
  subst hp
  intro C0 H locs ls e1 e2 e3 e4
  subst e1
  have hKn := C0.hK.1 ci _ hc
  have hlo : o.2.2.2.1 ≤ H.size := Nat.le_trans C0.lo e3.1
  refine W.newcK C0.1 C0.2.1 C0.own (C0.ts _ hw1) (C0.ts _ hw2) (C0.ts _ hw3) rfl hd (Nat.le_trans h1 hR.2.2.1) (Nat.le_trans h2 hR.2.2.2) hKn.2.1 rfl fun H1 kC hkC g1 z1 o1 => ?_
  refine kk _ (va_up_self _ _ _) (fun q hq => va_up_ne _ _ hq) C0 H1 _ ls z1 (e2.push hlo ?_ o1) (jw_grow e3 z1 o1) e4
  exact ⟨_, hc, (u_born (jw_ty0 T) C0.ts (jw_cw _ (List.mem_of_getElem? hc)) hKn hkC g1 (jw_tyok _ (List.mem_of_getElem? hc))).to (fun j hj => of_decide_eq_true (List.all_eq_true.mp hfs j (List.mem_range.mpr hj)))⟩
theorem jw_newa {d mc ms N i : Nat} {atype : ArrayType} {ty : FieldType} {n : Int32} {a0 : vp_A} (hR : jw_Rm k d mc ms) (hw : Cond.arrayClass ty ∈ jw_T) (hty : newarray.typeOf atype = ty) (ht : (jw_tys o.2.2.1)[i]? = some (o.2.2.1 i, ty)) (hd : decode mi.2.1 pc = .ok (.newarray atype, 2)) (ha : ∀ cA : ClassId, vp_cell cA a0 = arrV cA N (fun _ => defaultValue ty)) (hn : ¬ n < 0) (hN : n.toNatClampNeg = N) (hb : N * componentBytes ty ≤ 536870912) (h1 : kc + 1 ≤ mc) (h2 : ks + N ≤ ms) (hp : pc + 2 = pc') (kk : ∀ μ' : jw_Mem, μ' hs = some (.inl (o.2.2.1 i, a0)) → (∀ q, q ≠ hs → μ' q = μ q) → jw_X mi o k (kc + 1) (ks + N) pc' lc (.ref hs :: rest) μ' (hs + 1)) : jw_X mi o k kc ks pc lc (.int n :: rest) μ hs := by
  subst hp; subst hty
  intro C0 H locs ls e1 e2 e3 e4
  subst e1
  have hlo : o.2.2.2.1 ≤ H.size := Nat.le_trans C0.lo e3.1
  refine va_newaK C0.1 C0.2.1 (C0.ts _ hw) rfl hd rfl hn hN hb (Nat.le_trans h1 hR.2.2.1) (Nat.le_trans h2 hR.2.2.2) rfl fun H1 cA g1 z1 o1 hAr hNm => ?_
  have hRA := (C0.hK.2 i _ ht).2
  have hcA : cA = o.2.2.1 i := by
    have h9 : k.2.2.2.1.vm.findClass ("[" ++ (newarray.typeOf atype).toString) = some (o.2.2.1 i) := by cases atype <;> exact hRA
    exact Option.some.inj (hNm.symm.trans h9)
  subst hcA
  refine kk _ (va_up_self _ _ _) (fun q hq => va_up_ne _ _ hq) C0 H1 _ ls z1 (e2.push hlo ?_ o1) (jw_grow e3 z1 o1) e4
  show H1[H.size]? = some (vp_cell _ _)
  rw [ha]
  exact g1
theorem jw_newq {d mc ms N i idx : Nat} {C : String} {n : Int32} (hR : jw_Rm k d mc ms) (hw : Cond.classLink mi.1.cls idx C ∈ jw_T) (hao : C ∈ jw_ao) (ht : (jw_tys o.2.2.1)[i]? = some (o.2.2.1 i, .object C)) (hd : decode mi.2.1 pc = .ok (.anewarray idx, 3)) (hn : ¬ n < 0) (hN : n.toNatClampNeg = N) (hb : N * 4 ≤ 536870912) (h1 : kc + 1 ≤ mc) (h2 : ks + N ≤ ms) (hp : pc + 3 = pc') (kk : ∀ μ' : jw_Mem, μ' hs = some (.inl (o.2.2.1 i, N, .inr (.inr (.inr (.inr (fun _ => none)))))) → (∀ q, q ≠ hs → μ' q = μ q) → jw_X mi o k (kc + 1) (ks + N) pc' lc (.ref hs :: rest) μ' (hs + 1)) : jw_X mi o k kc ks pc lc (.int n :: rest) μ hs := by
  subst hp; subst hN
  intro C0 H locs ls e1 e2 e3 e4
  subst e1
  have hlo : o.2.2.2.1 ≤ H.size := Nat.le_trans C0.lo e3.1
  refine W.anew C0.1 C0.2.1 C0.own (C0.ts _ hw) (va_AO.use (C0.S.2 C hao)) rfl hd rfl hn hb (Nat.le_trans h1 hR.2.2.1) (Nat.le_trans h2 hR.2.2.2) fun cA kA comp f1 f2 f3 f4 => ?_
  generalize hH1 : H.push ({ cls := cA, slots := Array.replicate n.toNatClampNeg .null, vm := .none } : Cell) = H1
  have z1 : H1.size = H.size + 1 := by rw [← hH1, Array.size_push]
  have g1 : H1[H.size]? = some (arrV cA n.toNatClampNeg (fun _ => .null)) := by rw [← hH1, Array.getElem?_push_size, ← arrV_new]
  have o1 : ∀ q : Nat, q < H.size → H1[q]? = H[q]? := fun q hq => by rw [← hH1, Array.getElem?_push, if_neg (Nat.ne_of_lt hq)]
  obtain ⟨-, kA', comp', k1, k2, k3, k4⟩ := C0.hK.2 i _ ht
  have hcA : cA = o.2.2.1 i := Option.some.inj (f1.symm.trans k4)
  subst hcA
  refine kk _ (va_up_self _ _ _) (fun q hq => va_up_ne _ _ hq) C0 H1 _ ls z1 (e2.push hlo ?_ o1) (jw_grow e3 z1 o1) e4
  show H1[H.size]? = some (vp_cell _ _)
  rw [vp_cell_q]
  exact g1
theorem jw_alen {a i : Nat} {cA : ClassId} {x : vp_A} {ty : FieldType} {v : Int32} (hd : decode mi.2.1 pc = .ok (.arraylength, 1)) (ha : μ a = some (.inl (cA, x))) (ht : (jw_tys o.2.2.1)[i]? = some (cA, ty)) (hv : Int32.ofNat x.1 = v) (hp : pc + 1 = pc') (kk : jw_X mi o k kc ks pc' lc (.int v :: rest) μ hs) : jw_X mi o k kc ks pc lc (.ref a :: rest) μ hs := by
  subst hp
  exact fun C0 H locs ls e1 e2 e3 e4 => va_alen C0.1 C0.2.1 C0.hK (jw_one e2 ha) 0 i rfl ht hv hd (kk C0 H locs ls e1 e2 e3 e4)
theorem jw_iald {a i : Nat} {cA : ClassId} {n : Nat} {f : Nat → Int32} {x v : Int32} (hd : decode mi.2.1 pc = .ok (.iaload, 1)) (ha : μ a = some (.inl (cA, n, .inl f))) (ht : (jw_tys o.2.2.1)[i]? = some (cA, .int)) (hin : vp_in x n) (hv : f x.toNatClampNeg = v) (hp : pc + 1 = pc') (kk : jw_X mi o k kc ks pc' lc (.int v :: rest) μ hs) : jw_X mi o k kc ks pc lc (.int x :: .ref a :: rest) μ hs := by
  subst hp; subst hv
  exact fun C0 H locs ls e1 e2 e3 e4 => va_iald C0.1 C0.2.1 C0.hK (jw_one e2 ha) 0 i rfl ht hin hd (kk C0 H locs ls e1 e2 e3 e4)
theorem jw_zald {a i : Nat} {cA : ClassId} {n : Nat} {f : Nat → Int32} {x v : Int32} (hd : decode mi.2.1 pc = .ok (.baload, 1)) (ha : μ a = some (.inl (cA, n, .inl f))) (ht : (jw_tys o.2.2.1)[i]? = some (cA, .boolean)) (hin : vp_in x n) (hv : f x.toNatClampNeg = v) (hp : pc + 1 = pc') (kk : jw_X mi o k kc ks pc' lc (.int v :: rest) μ hs) : jw_X mi o k kc ks pc lc (.int x :: .ref a :: rest) μ hs := by
  subst hp; subst hv
  exact fun C0 H locs ls e1 e2 e3 e4 => va_zald C0.1 C0.2.1 C0.hK (jw_one e2 ha) 0 i rfl ht hin hd (kk C0 H locs ls e1 e2 e3 e4)
theorem jw_lald {a i : Nat} {cA : ClassId} {n : Nat} {f : Nat → Int64} {x : Int32} {v : Int64} (hd : decode mi.2.1 pc = .ok (.laload, 1)) (ha : μ a = some (.inl (cA, n, .inr (.inl f)))) (ht : (jw_tys o.2.2.1)[i]? = some (cA, .long)) (hin : vp_in x n) (hv : f x.toNatClampNeg = v) (hp : pc + 1 = pc') (kk : jw_X mi o k kc ks pc' lc (.long v :: rest) μ hs) : jw_X mi o k kc ks pc lc (.int x :: .ref a :: rest) μ hs := by
  subst hp; subst hv
  exact fun C0 H locs ls e1 e2 e3 e4 => va_lald C0.1 C0.2.1 C0.hK (jw_one e2 ha) 0 i rfl ht hin hd (kk C0 H locs ls e1 e2 e3 e4)
theorem jw_aald {a i : Nat} {cA : ClassId} {C : String} {n : Nat} {f : Nat → Option Nat} {x : Int32} {v : Value} (hd : decode mi.2.1 pc = .ok (.aaload, 1)) (ha : μ a = some (.inl (cA, n, .inr (.inr (.inr (.inr f)))))) (ht : (jw_tys o.2.2.1)[i]? = some (cA, .object C)) (hin : vp_in x n) (hv : va_rf (f x.toNatClampNeg) = v) (hp : pc + 1 = pc') (kk : jw_X mi o k kc ks pc' lc (v :: rest) μ hs) : jw_X mi o k kc ks pc lc (.int x :: .ref a :: rest) μ hs := by
  subst hp; subst hv
  exact fun C0 H locs ls e1 e2 e3 e4 => va_aldq C0.1 C0.2.1 C0.hK (jw_one e2 ha) 0 i rfl ht hin hd (kk C0 H locs ls e1 e2 e3 e4)
theorem jw_iast {a i : Nat} {cA : ClassId} {n : Nat} {f : Nat → Int32} {x y : Int32} (hd : decode mi.2.1 pc = .ok (.iastore, 1)) (ha : μ a = some (.inl (cA, n, .inl f))) (ht : (jw_tys o.2.2.1)[i]? = some (cA, .int)) (hin : vp_in x n) (hp : pc + 1 = pc') (kk : ∀ μ' : jw_Mem, μ' a = some (.inl (cA, n, .inl (upd f x.toNatClampNeg y))) → (∀ q, q ≠ a → μ' q = μ q) → jw_X mi o k kc ks pc' lc rest μ' hs) : jw_X mi o k kc ks pc lc (.int y :: .int x :: .ref a :: rest) μ hs := by
  subst hp
  intro C0 H locs ls e1 e2 e3 e4
  refine W.iast C0.1 C0.2.1 (e2 a _ ha).2 ((C0.hK.2 i _ ht).1 n (fun j => .int (f j))) (fun q => by cases q) (by show ¬ (x < 0 ∨ (arrV _ _ _).slots.size ≤ _); rw [arrV_size]; exact hin) rfl rfl hd fun H1 g z oq => ?_
  refine kk _ (va_up_self _ _ _) (fun q hq => va_up_ne _ _ hq) C0 H1 _ ls (z.trans e1) (e2.put ha ?_ oq) (e3.put z oq (e2 a _ ha).1) e4
  show H1[a]? = some (vp_cell _ _)
  rw [g]
  rw [vp_cell_i, vp_cell_i, arrV_store]
  congr 2
  funext q
  by_cases hq : q = x.toNatClampNeg
  · subst hq
    simp [updV, upd]
  · simp [updV, upd, hq]
theorem jw_zast {a i : Nat} {cA : ClassId} {n : Nat} {f : Nat → Int32} {x y : Int32} (hd : decode mi.2.1 pc = .ok (.bastore, 1)) (ha : μ a = some (.inl (cA, n, .inl f))) (ht : (jw_tys o.2.2.1)[i]? = some (cA, .boolean)) (hin : vp_in x n) (hp : pc + 1 = pc') (kk : ∀ μ' : jw_Mem, μ' a = some (.inl (cA, n, .inl (upd f x.toNatClampNeg (vp_nar .boolean y)))) → (∀ q, q ≠ a → μ' q = μ q) → jw_X mi o k kc ks pc' lc rest μ' hs) : jw_X mi o k kc ks pc lc (.int y :: .int x :: .ref a :: rest) μ hs := by
  subst hp
  intro C0 H locs ls e1 e2 e3 e4
  refine W.zast C0.1 C0.2.1 (e2 a _ ha).2 ((C0.hK.2 i _ ht).1 n (fun j => .int (f j))) (fun q => by cases q) (by show ¬ (x < 0 ∨ (arrV _ _ _).slots.size ≤ _); rw [arrV_size]; exact hin) rfl rfl hd fun H1 g z oq => ?_
  refine kk _ (va_up_self _ _ _) (fun q hq => va_up_ne _ _ hq) C0 H1 _ ls (z.trans e1) (e2.put ha ?_ oq) (e3.put z oq (e2 a _ ha).1) e4
  show H1[a]? = some (vp_cell _ _)
  rw [g]
  rw [vp_cell_i, vp_cell_i, arrV_store]
  congr 2
  funext q
  by_cases hq : q = x.toNatClampNeg
  · subst hq
    simp [updV, upd, vp_nar]
    try rfl
  · simp [updV, upd, hq]
theorem jw_last {a i : Nat} {cA : ClassId} {n : Nat} {f : Nat → Int64} {x : Int32} {y : Int64} (hd : decode mi.2.1 pc = .ok (.lastore, 1)) (ha : μ a = some (.inl (cA, n, .inr (.inl f)))) (ht : (jw_tys o.2.2.1)[i]? = some (cA, .long)) (hin : vp_in x n) (hp : pc + 1 = pc') (kk : ∀ μ' : jw_Mem, μ' a = some (.inl (cA, n, .inr (.inl (vp_updL f x.toNatClampNeg y)))) → (∀ q, q ≠ a → μ' q = μ q) → jw_X mi o k kc ks pc' lc rest μ' hs) : jw_X mi o k kc ks pc lc (.long y :: .int x :: .ref a :: rest) μ hs := by
  subst hp
  intro C0 H locs ls e1 e2 e3 e4
  refine W.last C0.1 C0.2.1 (e2 a _ ha).2 ((C0.hK.2 i _ ht).1 n (fun j => .long (f j))) (fun q => by cases q) (by show ¬ (x < 0 ∨ (arrV _ _ _).slots.size ≤ _); rw [arrV_size]; exact hin) rfl rfl hd fun H1 g z oq => ?_
  refine kk _ (va_up_self _ _ _) (fun q hq => va_up_ne _ _ hq) C0 H1 _ ls (z.trans e1) (e2.put ha ?_ oq) (e3.put z oq (e2 a _ ha).1) e4
  show H1[a]? = some (vp_cell _ _)
  rw [g]
  rw [vp_cell_l, vp_cell_l, arrV_store]
  congr 2
  funext q
  by_cases hq : q = x.toNatClampNeg
  · subst hq
    simp [updV, vp_updL]
  · simp [updV, vp_updL, hq]
theorem jw_aast {a i b ci : Nat} {cA : ClassId} {r : vw_C} {n : Nat} {f : Nat → Option Nat} {fs : List Value} {x : Int32} (hd : decode mi.2.1 pc = .ok (.aastore, 1)) (ha : μ a = some (.inl (cA, n, .inr (.inr (.inr (.inr f)))))) (ht : (jw_tys o.2.2.1)[i]? = some (cA, .object r.1)) (hb : μ b = some (.inr (ci, fs))) (hc : jw_cl[ci]? = some r) (hin : vp_in x n) (hp : pc + 1 = pc') (kk : ∀ μ' : jw_Mem, μ' a = some (.inl (cA, n, .inr (.inr (.inr (.inr (va_up f x.toNatClampNeg (some b))))))) → (∀ q, q ≠ a → μ' q = μ q) → jw_X mi o k kc ks pc' lc rest μ' hs) : jw_X mi o k kc ks pc lc (.ref b :: .int x :: .ref a :: rest) μ hs := by
  subst hp
  intro C0 H locs ls e1 e2 e3 e4
  have hlt : x.toNatClampNeg < n := Nat.not_le.mp fun q => hin (Or.inr q)
  have h0 : ¬ x < 0 := fun q => hin (Or.inl q)
  obtain ⟨r', hr', cellV, g1, g2, g3, -⟩ := (e2 b _ hb).2
  have hcls := (C0.hK.1 ci r hc).2
  obtain ⟨kA, comp, k1, k2, k3, -⟩ := (C0.hK.2 i _ ht).2
  have hcomp : comp = o.2.1.1 ci := Option.some.inj (k3.symm.trans hcls.1)
  subst hcomp
  obtain ⟨kC, hkC, -⟩ := hcls.2
  refine W.aast C0.1 C0.2.1 (e2 a _ ha).2 (fun q h => by cases h) (fun h => by cases h) k1 k2 rfl hkC ⟨h0, by show _ < (arrV _ _ _).slots.size; rw [arrV_size]; exact hlt⟩ g1 (fun q h => by rw [g3] at h; cases h) (by rw [g2]; exact hkC) (by rw [g2]; exact va_assign hcls) rfl rfl hd fun H1 g z oq => ?_
  refine kk _ (va_up_self _ _ _) (fun q hq => va_up_ne _ _ hq) C0 H1 _ ls (z.trans e1) (e2.put ha ?_ oq) (e3.put z oq (e2 a _ ha).1) e4
  show H1[a]? = some (vp_cell _ _)
  rw [g]
  rw [vp_cell_q, vp_cell_q, arrV_store]
  congr 2
  funext q
  by_cases hq : q = x.toNatClampNeg
  · subst hq
    simp [updV, va_up, va_rf]
  · simp [updV, va_up, hq]
theorem jw_good {ws : List Cond} (h : ∀ w ∈ ws, w ∈ jw_T) : GoodIn jw_T ws := fun w hw => ⟨h w hw, good_of_word (List.mem_filter.mp (h w hw)).2⟩
theorem jw_S.same {s U : State} (h : s.vm = U.vm) (hS : jw_S s) : jw_S U := ⟨fun q hq => va_tabs rfl h (hS.1 q hq), fun C hC => va_AO.moved (by rw [h]; exact Vm.Alike.refl _) (hS.2 C hC)⟩
theorem jw_B.blind {As : List Value} : FrameBlind (va_Pc As (jw_B o μ hs)) := fun a U g mk q => by
  obtain ⟨q0, q1, q2, q3, q4, q5, q6⟩ := q
  exact ⟨q0, q1, q2, va_K.moved (u := U) (U := U.calling g mk a) (Vm.Alike.refl U.vm) q3, jw_S.same (s := U) (U := U.calling g mk a) rfl q4, q5, jw_xB.same (u := U) (U := U.calling g mk a) rfl q6⟩
theorem jw_B.of {As : List Value} {H : Heap} {locs : List Loc} (C0 : jw_Cx mi o k) (e1 : H.size = hs) (e2 : jw_H o μ H) (e3 : va_S (fun q => o.2.2.2.1 ≤ q) k.2.2.2.1.heap H locs) : ∀ U : State, U.heap = H → k.2.2.2.1.WarmedH U.vm → va_Pc As (jw_B o μ hs) As.toArray U := fun U hU hW => ⟨rfl, by rw [hU]; exact e1, by rw [hU]; exact e2, va_K.moved hW.alike C0.hK, C0.S.moved hW, by rw [← e1]; exact Nat.le_trans C0.lo e3.1, by rw [hU]; exact (C0.xB.kept e3.2.1).warm hW⟩
theorem jw_back {H : Heap} {locs : List Loc} {ls : Array Slot} {mc' ms' : Nat} {a : Array Value} {Φ : Option Value → jw_Mem → Nat → Prop}
    (hr : va_Run k.1 o.1 k.2.1 k.2.2.1 k.2.2.2.1 k.2.2.2.2.1 k.2.2.2.2.2.1 k.2.2.2.2.2.2.1 k.2.2.2.2.2.2.2.1 k.2.2.2.2.2.2.2.2.1 H locs kc ks mc' ms' (F0 k.2.2.2.2.1 pc ls st) rest (jw_Q o Φ a) (fun q => o.2.2.2.1 ≤ q))
    (e3 : va_S (fun q => o.2.2.2.1 ≤ q) k.2.2.2.1.heap H locs)
    (kk : ∀ (v : Option Value) (μ' : jw_Mem) (H1 : Heap) (locs1 : List Loc), jw_H o μ' H1 → Φ v μ' H1.size → H.size ≤ H1.size → va_S (fun q => o.2.2.2.1 ≤ q) k.2.2.2.1.heap H1 locs1 → jw_W o k H1 locs1 (kc + mc') (ks + ms') (pc + 3) ls (v.toList ++ rest)) : jw_W o k H locs kc ks pc ls st := by
  intro T hT X
  obtain ⟨v, st₀, t, T', L, h0, X', hL, e1, e2, ⟨⟨v', μ', hv, hH, hΦ⟩, hz, hk⟩, sts⟩ := hr T hT X
  cases hv
  rw [h0] at hz hk
  obtain ⟨t2, a1, b1⟩ := kk v μ' T'.heap (locs ++ L) (by rw [e1]; exact hH) (by rw [e1]; exact hΦ) (by rw [e1]; exact hz)
    ⟨Nat.le_trans e3.1 (by rw [e1]; exact hz), fun q h1 h2 => by rw [e1, hk q (Nat.lt_of_lt_of_le h1 e3.1) h2]; exact e3.2.1 q h1 h2, fun q hq => by
      rcases List.mem_append.mp hq with h | h
      · exact e3.2.2 q h
      · exact hL q h⟩ T' rfl X'
  exact ⟨t2, sts t2 a1, b1⟩
def jw_pl (y : MethodName) (n : Nat) : Prop := y.cls ≠ "java/lang/invoke/MethodHandle" ∧ y.cls ≠ "java/lang/invoke/VarHandle" ∧ (parseMethodDescriptor y.desc).map (fun d => d.parameters.length) = some n
/-- what the tables say of a method that is called: an instance's, a static one, a constructor -/
def jw_mV (mi : jw_M) (n : Nat) : Prop := Cond.instanceMethod mi.1 ∈ jw_T ∧ Cond.selects mi.1.cls mi.1 mi.1 ∈ jw_T ∧ Cond.initialized mi.1.cls ∈ jw_T ∧ Cond.code mi.1 mi.2.1 mi.2.2.1 mi.2.2.2 ∈ jw_T ∧ jw_pl mi.1 n
def jw_mS (mi : jw_M) (n : Nat) : Prop := Cond.static mi.1 ∈ jw_T ∧ Cond.initialized mi.1.cls ∈ jw_T ∧ Cond.code mi.1 mi.2.1 mi.2.2.1 mi.2.2.2 ∈ jw_T ∧ jw_pl mi.1 n
def jw_mI (mi : jw_M) (n : Nat) : Prop := Cond.instanceMethod mi.1 ∈ jw_T ∧ Cond.initialized mi.1.cls ∈ jw_T ∧ Cond.code mi.1 mi.2.1 mi.2.2.1 mi.2.2.2 ∈ jw_T ∧ mi.1.name = "<init>" ∧ mi.2.2.2 = none ∧ jw_pl mi.1 n
theorem jw_room {d d' mc ms mc' ms' mx : Nat} (hR : jw_Rm k d mc ms) (hdd : d' + 1 ≤ d) (hml : mx ≤ 21) : (jw_rm d' mc' ms').frames + 1 ≤ k.2.2.1.frames ∧ 8 + (mx + 11) + (jw_rm d' mc' ms').locals ≤ k.2.2.1.locals := by
  obtain ⟨h1, h2, -, -⟩ := hR
  exact ⟨Nat.le_trans hdd h1, by show 8 + (mx + 11) + 40 * d' ≤ _; omega⟩
theorem jw_callV {mj : jw_M} {d d' mc ms mc' ms' a ci n idx : Nat} {As : List Value} {fs : List Value} {T : u_T} {N : Nat} {Φ : Option Value → jw_Mem → Nat → Prop} (hR : jw_Rm k d mc ms) (hS : jw_Spec mj d' mc' ms' o (.ref a :: As) μ hs Φ) (hm : jw_mV mj n) (hw : Cond.methodLink mi.1.cls idx mj.1 ∈ jw_T) (hc : jw_cl[ci]? = some (mj.1.cls, T, N)) (hd : decode mi.2.1 pc = .ok (.invokevirtual idx, 3)) (ha : μ a = some (.inr (ci, fs))) (hn : As.length = n) (hst : As.reverse ++ .ref a :: rest = st) (hrs : (rest.map fun v => v.category).sum ≤ 8) (hdd : d' + 1 ≤ d) (hml : mj.2.2.1 ≤ 21) (h1 : kc + mc' ≤ mc) (h2 : ks + ms' ≤ ms) (hp : pc + 3 = pc') (kk : ∀ (v : Option Value) (μ' : jw_Mem) (hs' : Nat), Φ v μ' hs' → hs ≤ hs' → jw_X mi o k (kc + mc') (ks + ms') pc' lc (v.toList ++ rest) μ' hs') : jw_X mi o k kc ks pc lc st μ hs := by
  subst hp; subst hst
  intro C0 H locs ls e1 e2 e3 e4
  obtain ⟨m1, m2, m3, m4, m5⟩ := hm
  refine jw_back (va_runV (As := As) (rest := rest) (b := a) ⟨C0.1, C0.2.1, C0.2.2.2.1, C0.own, C0.ts⟩ hS (cwV (ws' := jw_T) n C0.ts (jw_good fun w hw9 => ?_) rfl rfl rfl ⟨rfl, m5⟩ (jw_room hR hdd hml)) ⟨jw_B.blind, va_recv C0.hK (jw_one e2 ha) (ci := ci) (q0 := 0) hc rfl, jw_B.of C0 e1 e2 e3⟩ rfl hn e4.1 rfl (lv_room hrs) hd ⟨Nat.le_trans h1 hR.2.2.1, Nat.le_trans h2 hR.2.2.2⟩) e3 (fun v μ' H1 locs1 q1 q2 q3 q4 => kk v μ' H1.size q2 (by rw [← e1]; exact q3) C0 H1 locs1 ls rfl q1 q4 e4)
  rcases List.mem_append.mp hw9 with h | h
  · simp only [List.mem_cons, List.not_mem_nil, or_false] at h
    rcases h with rfl | rfl | rfl | rfl
    · exact hw
    · exact m1
    · exact m2
    · exact m3
  · rcases List.mem_cons.mp h with rfl | h
    · exact m4
    · exact h
theorem jw_callS {mj : jw_M} {d d' mc ms mc' ms' n idx : Nat} {As : List Value} {Φ : Option Value → jw_Mem → Nat → Prop} (hR : jw_Rm k d mc ms) (hS : jw_Spec mj d' mc' ms' o As μ hs Φ) (hm : jw_mS mj n) (hw : Cond.methodLink mi.1.cls idx mj.1 ∈ jw_T) (hd : decode mi.2.1 pc = .ok (.invokestatic idx, 3)) (hn : As.length = n) (hst : As.reverse ++ rest = st) (hrs : (rest.map fun v => v.category).sum ≤ 8) (hdd : d' + 1 ≤ d) (hml : mj.2.2.1 ≤ 21) (h1 : kc + mc' ≤ mc) (h2 : ks + ms' ≤ ms) (hp : pc + 3 = pc') (kk : ∀ (v : Option Value) (μ' : jw_Mem) (hs' : Nat), Φ v μ' hs' → hs ≤ hs' → jw_X mi o k (kc + mc') (ks + ms') pc' lc (v.toList ++ rest) μ' hs') : jw_X mi o k kc ks pc lc st μ hs := by
  subst hp; subst hst
  intro C0 H locs ls e1 e2 e3 e4
  obtain ⟨m1, m2, m3, m4⟩ := hm
  refine jw_back (va_runS (As := As) (rest := rest) ⟨C0.1, C0.2.1, C0.2.2.2.1, C0.own, C0.ts⟩ hS ⟨callB_of (ws' := jw_T) n C0.ts (jw_good fun w hw9 => ?_) rfl rfl rfl (C0.ts _ m2) (C0.ts _ hw) m4 (jw_room hR hdd hml), C0.ts _ m1⟩ ⟨jw_B.blind, jw_B.of C0 e1 e2 e3⟩ rfl hn e4.1 rfl (lv_room hrs) hd ⟨Nat.le_trans h1 hR.2.2.1, Nat.le_trans h2 hR.2.2.2⟩) e3 (fun v μ' H1 locs1 q1 q2 q3 q4 => kk v μ' H1.size q2 (by rw [← e1]; exact q3) C0 H1 locs1 ls rfl q1 q4 e4)
  rcases List.mem_cons.mp hw9 with rfl | h
  · exact m3
  · exact h
theorem jw_callI {mj : jw_M} {d d' mc ms mc' ms' a n idx : Nat} {As : List Value} {Φ : Option Value → jw_Mem → Nat → Prop} (hR : jw_Rm k d mc ms) (hS : jw_Spec mj d' mc' ms' o (.ref a :: As) μ hs Φ) (hm : jw_mI mj n) (hw : Cond.methodLink mi.1.cls idx mj.1 ∈ jw_T) (hd : decode mi.2.1 pc = .ok (.invokespecial idx, 3)) (hn : As.length = n) (hst : As.reverse ++ .ref a :: rest = st) (hrs : (rest.map fun v => v.category).sum ≤ 8) (hdd : d' + 1 ≤ d) (hml : mj.2.2.1 ≤ 21) (h1 : kc + mc' ≤ mc) (h2 : ks + ms' ≤ ms) (hp : pc + 3 = pc') (kk : ∀ (v : Option Value) (μ' : jw_Mem) (hs' : Nat), Φ v μ' hs' → hs ≤ hs' → jw_X mi o k (kc + mc') (ks + ms') pc' lc (v.toList ++ rest) μ' hs') : jw_X mi o k kc ks pc lc st μ hs := by
  subst hp; subst hst
  intro C0 H locs ls e1 e2 e3 e4
  obtain ⟨m1, m2, m3, m4, m5, m6⟩ := hm
  refine jw_back (va_runI (As := As) (rest := rest) (b := a) ⟨C0.1, C0.2.1, C0.2.2.2.1, C0.own, C0.ts⟩ hS (cwI (ws' := jw_T) n C0.ts (jw_good fun w hw9 => ?_) (by unfold jw_ws; rw [m5]) rfl rfl (C0.ts _ m2) (C0.ts _ hw) (C0.ts _ m1) m4 m6 (jw_room hR hdd hml)) ⟨jw_B.blind, jw_B.of C0 e1 e2 e3⟩ rfl hn e4.1 rfl (lv_room hrs) hd ⟨Nat.le_trans h1 hR.2.2.1, Nat.le_trans h2 hR.2.2.2⟩) e3 (fun v μ' H1 locs1 q1 q2 q3 q4 => kk v μ' H1.size q2 (by rw [← e1]; exact q3) C0 H1 locs1 ls rfl q1 q4 e4)
  rcases List.mem_cons.mp hw9 with rfl | h
  · exact m3
  · exact h
theorem jw_callIN {mj : jw_M} {d d' mc ms mc' ms' a n idx : Nat} {host : String} {As : List Value} {Φ : Option Value → jw_Mem → Nat → Prop} (hR : jw_Rm k d mc ms) (hS : jw_Spec mj d' mc' ms' o (.ref a :: As) μ hs Φ) (hm : jw_mI mj n) (hw : (mi.1.cls, idx, mj.1, host) ∈ jw_nest) (hd : decode mi.2.1 pc = .ok (.invokespecial idx, 3)) (hn : As.length = n) (hst : As.reverse ++ .ref a :: rest = st) (hrs : (rest.map fun v => v.category).sum ≤ 8) (hdd : d' + 1 ≤ d) (hml : mj.2.2.1 ≤ 21) (h1 : kc + mc' ≤ mc) (h2 : ks + ms' ≤ ms) (hp : pc + 3 = pc') (kk : ∀ (v : Option Value) (μ' : jw_Mem) (hs' : Nat), Φ v μ' hs' → hs ≤ hs' → jw_X mi o k (kc + mc') (ks + ms') pc' lc (v.toList ++ rest) μ' hs') : jw_X mi o k kc ks pc lc st μ hs := by
  subst hp; subst hst
  intro C0 H locs ls e1 e2 e3 e4
  obtain ⟨m1, m2, m3, m4, m5, m6⟩ := hm
  refine jw_back (va_runIN (As := As) (rest := rest) (b := a) ⟨C0.1, C0.2.1, C0.2.2.2.1, C0.own, C0.ts⟩ hS ⟨va_cnB (ws' := jw_T) (ret := none) n C0.ts (jw_good fun w hw9 => ?_) (by unfold jw_ws; rw [m5]) rfl rfl (C0.S.1 _ hw) (C0.ts _ m2) m6 (jw_room hR hdd hml), m4, C0.ts _ m1⟩ ⟨jw_B.blind, jw_B.of C0 e1 e2 e3⟩ rfl hn e4.1 rfl (lv_room hrs) hd ⟨Nat.le_trans h1 hR.2.2.1, Nat.le_trans h2 hR.2.2.2⟩) e3 (fun v μ' H1 locs1 q1 q2 q3 q4 => kk v μ' H1.size q2 (by rw [← e1]; exact q3) C0 H1 locs1 ls rfl q1 q4 e4)
  rcases List.mem_cons.mp hw9 with rfl | h
  · exact m3
  · exact h
theorem jw_callSN {mj : jw_M} {d d' mc ms mc' ms' n idx : Nat} {host : String} {As : List Value} {Φ : Option Value → jw_Mem → Nat → Prop} (hR : jw_Rm k d mc ms) (hS : jw_Spec mj d' mc' ms' o As μ hs Φ) (hm : jw_mS mj n) (hw : (mi.1.cls, idx, mj.1, host) ∈ jw_nest) (hd : decode mi.2.1 pc = .ok (.invokestatic idx, 3)) (hn : As.length = n) (hst : As.reverse ++ rest = st) (hrs : (rest.map fun v => v.category).sum ≤ 8) (hdd : d' + 1 ≤ d) (hml : mj.2.2.1 ≤ 21) (h1 : kc + mc' ≤ mc) (h2 : ks + ms' ≤ ms) (hp : pc + 3 = pc') (kk : ∀ (v : Option Value) (μ' : jw_Mem) (hs' : Nat), Φ v μ' hs' → hs ≤ hs' → jw_X mi o k (kc + mc') (ks + ms') pc' lc (v.toList ++ rest) μ' hs') : jw_X mi o k kc ks pc lc st μ hs := by
  subst hp; subst hst
  intro C0 H locs ls e1 e2 e3 e4
  obtain ⟨m1, m2, m3, m4⟩ := hm
  refine jw_back (va_runSN (As := As) (rest := rest) ⟨C0.1, C0.2.1, C0.2.2.2.1, C0.own, C0.ts⟩ hS ⟨va_cnB (ws' := jw_T) n C0.ts (jw_good fun w hw9 => ?_) rfl rfl rfl (C0.S.1 _ hw) (C0.ts _ m2) m4 (jw_room hR hdd hml), C0.ts _ m1, trivial⟩ ⟨jw_B.blind, jw_B.of C0 e1 e2 e3⟩ rfl hn e4.1 rfl (lv_room hrs) hd ⟨Nat.le_trans h1 hR.2.2.1, Nat.le_trans h2 hR.2.2.2⟩) e3 (fun v μ' H1 locs1 q1 q2 q3 q4 => kk v μ' H1.size q2 (by rw [← e1]; exact q3) C0 H1 locs1 ls rfl q1 q4 e4)
  rcases List.mem_cons.mp hw9 with rfl | h
  · exact m3
  · exact h
theorem jw_objInit {d mc ms a idx : Nat} (hR : jw_Rm k d mc ms) (hw : Cond.methodLink mi.1.cls idx objectInit ∈ jw_T) (hd : decode mi.2.1 pc = .ok (.invokespecial idx, 3)) (hrs : (rest.map fun v => v.category).sum ≤ 8) (hdd : 1 ≤ d) (hp : pc + 3 = pc') (kk : jw_X mi o k kc ks pc' lc rest μ hs) : jw_X mi o k kc ks pc lc (.ref a :: rest) μ hs := by
  subst hp
  intro C0 H locs ls e1 e2 e3 e4
  obtain ⟨r1, r2, -, -⟩ := hR
  exact W.objInit C0.1 C0.2.1 C0.own (C0.ts _ hw) (C0.ts _ jw_oi1) (C0.ts _ jw_oi2) rfl (by rw [C0.2.2.2.1]; exact e4.1) rfl hd (Nat.le_trans hdd r1) (by have := lv_room (m := k.2.2.2.2.1) (pc := pc) (ls := ls) (rest := .ref a :: rest) hrs; omega) (W.eq (g2 := F0 k.2.2.2.2.1 (pc + 3) ls rest) rfl (kk C0 H locs ls e1 e2 e3 e4))
-- ends
theorem jw_zret {mc ms : Nat} {Φ : Option Value → jw_Mem → Nat → Prop} {v : Int32} {ty : FieldType} (hE : jw_E o k mc ms Φ) (hd : decode mi.2.1 pc = .ok (.ireturn, 1)) (hr : mi.2.2.2 = some ty) (hn : narrow ty (.int v) = .int v) (h1 : kc ≤ mc) (h2 : ks ≤ ms) (h : Φ (some (.int v)) μ hs) : jw_X mi o k kc ks pc lc [.int v] μ hs := by
  intro C0 H locs ls e1 e2 e3 e4
  refine W.widen h1 h2 (hE _ _ _ ?_)
  exact W.zret C0.1 C0.2.1 (C0.2.2.1.trans hr) hn (fun t ht hW => ⟨⟨_, μ, rfl, by rw [ht]; exact e2, by rw [ht, e1]; exact h⟩, e3.F ht⟩) e3.2.2 hd C0.2.2.2.2.2.2.1
theorem jw_iret {mc ms : Nat} {Φ : Option Value → jw_Mem → Nat → Prop} {v : Int32} (hE : jw_E o k mc ms Φ) (hd : decode mi.2.1 pc = .ok (.ireturn, 1)) (hr : mi.2.2.2 = some .int) (h1 : kc ≤ mc) (h2 : ks ≤ ms) (h : Φ (some (.int v)) μ hs) : jw_X mi o k kc ks pc lc [.int v] μ hs := jw_zret hE hd hr (vp_nar_int v) h1 h2 h
theorem jw_lret {mc ms : Nat} {Φ : Option Value → jw_Mem → Nat → Prop} {v : Int64} (hE : jw_E o k mc ms Φ) (hd : decode mi.2.1 pc = .ok (.lreturn, 1)) (hr : mi.2.2.2 = some .long) (h1 : kc ≤ mc) (h2 : ks ≤ ms) (h : Φ (some (.long v)) μ hs) : jw_X mi o k kc ks pc lc [.long v] μ hs := by
  intro C0 H locs ls e1 e2 e3 e4
  refine W.widen h1 h2 (hE _ _ _ ?_)
  exact W.lret C0.1 C0.2.1 (C0.2.2.1.trans hr) (fun t ht hW => ⟨⟨_, μ, rfl, by rw [ht]; exact e2, by rw [ht, e1]; exact h⟩, e3.F ht⟩) e3.2.2 hd C0.2.2.2.2.2.2.1
theorem jw_dret {mc ms : Nat} {Φ : Option Value → jw_Mem → Nat → Prop} {v : UInt64} (hE : jw_E o k mc ms Φ) (hd : decode mi.2.1 pc = .ok (.dreturn, 1)) (hr : mi.2.2.2 = some .double) (h1 : kc ≤ mc) (h2 : ks ≤ ms) (h : Φ (some (.double v)) μ hs) : jw_X mi o k kc ks pc lc [.double v] μ hs := by
  intro C0 H locs ls e1 e2 e3 e4
  refine W.widen h1 h2 (hE _ _ _ ?_)
  exact W.dret C0.1 C0.2.1 (C0.2.2.1.trans hr) (fun t ht hW => ⟨⟨_, μ, rfl, by rw [ht]; exact e2, by rw [ht, e1]; exact h⟩, e3.F ht⟩) e3.2.2 hd C0.2.2.2.2.2.2.1
theorem jw_vret {mc ms : Nat} {Φ : Option Value → jw_Mem → Nat → Prop} (hE : jw_E o k mc ms Φ) (hd : decode mi.2.1 pc = .ok (.return_, 1)) (hr : mi.2.2.2 = none) (h1 : kc ≤ mc) (h2 : ks ≤ ms) (h : Φ none μ hs) : jw_X mi o k kc ks pc lc [] μ hs := by
  intro C0 H locs ls e1 e2 e3 e4
  refine W.widen h1 h2 (hE _ _ _ ?_)
  exact W.vret C0.1 C0.2.1 (C0.2.2.1.trans hr) (fun t ht hW => ⟨⟨_, μ, rfl, by rw [ht]; exact e2, by rw [ht, e1]; exact h⟩, e3.F ht⟩) e3.2.2 hd C0.2.2.2.2.2.2.1
theorem jw_aret {mc ms : Nat} {Φ : Option Value → jw_Mem → Nat → Prop} {v : Value} {rt : FieldType} (hE : jw_E o k mc ms Φ) (hd : decode mi.2.1 pc = .ok (.areturn, 1)) (hr : mi.2.2.2 = some rt) (hrt : (∃ n, rt = .object n) ∨ ∃ t, rt = .array t) (hv : v = .null ∨ ∃ a, v = .ref a) (h1 : kc ≤ mc) (h2 : ks ≤ ms) (h : Φ (some v) μ hs) : jw_X mi o k kc ks pc lc [v] μ hs := by
  intro C0 H locs ls e1 e2 e3 e4
  refine W.widen h1 h2 (hE _ _ _ ?_)
  exact W.aret C0.1 C0.2.1 (C0.2.2.1.trans hr) hrt hv (fun t ht hW => ⟨⟨_, μ, rfl, by rw [ht]; exact e2, by rw [ht, e1]; exact h⟩, e3.F ht⟩) e3.2.2 hd C0.2.2.2.2.2.2.1
def jw_Ro (mi : jw_M) (d : Nat) (o : jw_O) (As : List Value) (μ : jw_Mem) (hs : Nat) (v : Option Value) : Prop := jw_Spec mi d 0 0 o As μ hs (fun v' μ' s' => v' = v ∧ μ' = μ ∧ s' = hs)
theorem jw_callV0 {mj : jw_M} {d d' mc ms a ci n idx : Nat} {As : List Value} {fs : List Value} {T : u_T} {N : Nat} {v : Option Value} {st' : List Value} (hR : jw_Rm k d mc ms) (hS : jw_Ro mj d' o (.ref a :: As) μ hs v) (hm : jw_mV mj n) (hw : Cond.methodLink mi.1.cls idx mj.1 ∈ jw_T) (hc : jw_cl[ci]? = some (mj.1.cls, T, N)) (hd : decode mi.2.1 pc = .ok (.invokevirtual idx, 3)) (ha : μ a = some (.inr (ci, fs))) (hn : As.length = n) (hst : As.reverse ++ .ref a :: rest = st) (hrs : (rest.map fun v => v.category).sum ≤ 8) (hdd : d' + 1 ≤ d) (hml : mj.2.2.1 ≤ 21) (h1 : kc ≤ mc) (h2 : ks ≤ ms) (hp : pc + 3 = pc') (hv : v.toList ++ rest = st') (kk : jw_X mi o k kc ks pc' lc st' μ hs) : jw_X mi o k kc ks pc lc st μ hs :=
  jw_callV hR hS hm hw hc hd ha hn hst hrs hdd hml h1 h2 hp (fun v1 μ1 s1 q _ => by obtain ⟨rfl, rfl, rfl⟩ := q; rw [hv]; exact kk)
theorem jw_callS0 {mj : jw_M} {d d' mc ms n idx : Nat} {As : List Value} {v : Option Value} {st' : List Value} (hR : jw_Rm k d mc ms) (hS : jw_Ro mj d' o As μ hs v) (hm : jw_mS mj n) (hw : Cond.methodLink mi.1.cls idx mj.1 ∈ jw_T) (hd : decode mi.2.1 pc = .ok (.invokestatic idx, 3)) (hn : As.length = n) (hst : As.reverse ++ rest = st) (hrs : (rest.map fun v => v.category).sum ≤ 8) (hdd : d' + 1 ≤ d) (hml : mj.2.2.1 ≤ 21) (h1 : kc ≤ mc) (h2 : ks ≤ ms) (hp : pc + 3 = pc') (hv : v.toList ++ rest = st') (kk : jw_X mi o k kc ks pc' lc st' μ hs) : jw_X mi o k kc ks pc lc st μ hs :=
  jw_callS hR hS hm hw hd hn hst hrs hdd hml h1 h2 hp (fun v1 μ1 s1 q _ => by obtain ⟨rfl, rfl, rfl⟩ := q; rw [hv]; exact kk)
theorem jw_callI0 {mj : jw_M} {d d' mc ms a n idx : Nat} {As : List Value} {v : Option Value} {st' : List Value} (hR : jw_Rm k d mc ms) (hS : jw_Ro mj d' o (.ref a :: As) μ hs v) (hm : jw_mI mj n) (hw : Cond.methodLink mi.1.cls idx mj.1 ∈ jw_T) (hd : decode mi.2.1 pc = .ok (.invokespecial idx, 3)) (hn : As.length = n) (hst : As.reverse ++ .ref a :: rest = st) (hrs : (rest.map fun v => v.category).sum ≤ 8) (hdd : d' + 1 ≤ d) (hml : mj.2.2.1 ≤ 21) (h1 : kc ≤ mc) (h2 : ks ≤ ms) (hp : pc + 3 = pc') (hv : v.toList ++ rest = st') (kk : jw_X mi o k kc ks pc' lc st' μ hs) : jw_X mi o k kc ks pc lc st μ hs :=
  jw_callI hR hS hm hw hd hn hst hrs hdd hml h1 h2 hp (fun v1 μ1 s1 q _ => by obtain ⟨rfl, rfl, rfl⟩ := q; rw [hv]; exact kk)
theorem jw_callIN0 {mj : jw_M} {d d' mc ms a n idx : Nat} {host : String} {As : List Value} {v : Option Value} {st' : List Value} (hR : jw_Rm k d mc ms) (hS : jw_Ro mj d' o (.ref a :: As) μ hs v) (hm : jw_mI mj n) (hw : (mi.1.cls, idx, mj.1, host) ∈ jw_nest) (hd : decode mi.2.1 pc = .ok (.invokespecial idx, 3)) (hn : As.length = n) (hst : As.reverse ++ .ref a :: rest = st) (hrs : (rest.map fun v => v.category).sum ≤ 8) (hdd : d' + 1 ≤ d) (hml : mj.2.2.1 ≤ 21) (h1 : kc ≤ mc) (h2 : ks ≤ ms) (hp : pc + 3 = pc') (hv : v.toList ++ rest = st') (kk : jw_X mi o k kc ks pc' lc st' μ hs) : jw_X mi o k kc ks pc lc st μ hs :=
  jw_callIN hR hS hm hw hd hn hst hrs hdd hml h1 h2 hp (fun v1 μ1 s1 q _ => by obtain ⟨rfl, rfl, rfl⟩ := q; rw [hv]; exact kk)
theorem jw_callSN0 {mj : jw_M} {d d' mc ms n idx : Nat} {host : String} {As : List Value} {v : Option Value} {st' : List Value} (hR : jw_Rm k d mc ms) (hS : jw_Ro mj d' o As μ hs v) (hm : jw_mS mj n) (hw : (mi.1.cls, idx, mj.1, host) ∈ jw_nest) (hd : decode mi.2.1 pc = .ok (.invokestatic idx, 3)) (hn : As.length = n) (hst : As.reverse ++ rest = st) (hrs : (rest.map fun v => v.category).sum ≤ 8) (hdd : d' + 1 ≤ d) (hml : mj.2.2.1 ≤ 21) (h1 : kc ≤ mc) (h2 : ks ≤ ms) (hp : pc + 3 = pc') (hv : v.toList ++ rest = st') (kk : jw_X mi o k kc ks pc' lc st' μ hs) : jw_X mi o k kc ks pc lc st μ hs :=
  jw_callSN hR hS hm hw hd hn hst hrs hdd hml h1 h2 hp (fun v1 μ1 s1 q _ => by obtain ⟨rfl, rfl, rfl⟩ := q; rw [hv]; exact kk)
end Rules
/-- a contract out of the walk of the method's body -/
theorem jw_spec {mi : jw_M} {o : jw_O} {d mc ms hs : Nat} {As : List Value} {μ : jw_Mem} {Φ : Option Value → jw_Mem → Nat → Prop} {lc : List (Nat × Value)} (hy : plainName mi.1.cls = true) (hn : (lg_sl As).length ≤ mi.2.2.1) (hlc : lv_args 0 As = lc) (body : ∀ k : jw_K, jw_Rm k d mc ms → jw_E o k mc ms Φ → jw_X mi o k 0 0 0 lc [] μ hs) : jw_Spec mi d mc ms o As μ hs Φ := by
  refine Met.ofW (cc := mi.2.1) (maxL := mi.2.2.1) (ret := mi.2.2.2) hy rfl ?_
  intro p e s m args below meth c s₁ B hml hv
  obtain ⟨rfl, h1, h2, h3, h4, h5, h6⟩ := hv
  have hts := atoms_spec (ws := jw_ws mi) B.pre
  have hown : s.vm.findClass mi.1.cls = some m.cls := findClass_of_methodNamed B.named
  have hname := (name_of_methodNamed B.named B.method).1
  have hb := body (p, e, jw_rm d mc ms, s, m, As.toArray, below, meth, c, MQ below (jw_Q o Φ) As.toArray s mc ms (fun q => o.2.2.2.1 ≤ q)) ⟨Nat.le_refl _, Nat.le_refl _, Nat.le_refl _, Nat.le_refl _⟩ (fun _ _ _ h => h) ⟨B.exec, B.bytes, B.returns, hml, hown, fun w h => hts w (List.mem_cons_of_mem _ h), B.notSynchronized, hname, h3, h4, by rw [h1]; exact h5, h6⟩
  rw [lg_entry_eq]
  exact hb s.heap [] _ h1 h2 va_S.rf (hlc ▸ lv_entry As hn)
theorem jw_ro {mi : jw_M} {o : jw_O} {d hs : Nat} {As : List Value} {μ : jw_Mem} {v : Option Value} {lc : List (Nat × Value)} (hy : plainName mi.1.cls = true) (hn : (lg_sl As).length ≤ mi.2.2.1) (hlc : lv_args 0 As = lc) (body : ∀ k : jw_K, jw_Rm k d 0 0 → jw_E o k 0 0 (fun v' μ' s' => v' = v ∧ μ' = μ ∧ s' = hs) → jw_X mi o k 0 0 0 lc [] μ hs) : jw_Ro mi d o As μ hs v := jw_spec hy hn hlc body
theorem jm_Branchwork_init : jw_mI mi_Branchwork_init 0 := ⟨jq_44, jq_23, jq_45, rfl, rfl, ⟨by decide +kernel, by decide +kernel, by decide +kernel⟩⟩
theorem jm_Tree_init : jw_mI mi_Tree_init 0 := ⟨jq_52, jq_24, jq_53, rfl, rfl, ⟨by decide +kernel, by decide +kernel, by decide +kernel⟩⟩
theorem jm_Content_init : jw_mI mi_Content_init 0 := ⟨jq_59, jq_25, jq_60, rfl, rfl, ⟨by decide +kernel, by decide +kernel, by decide +kernel⟩⟩
theorem jm_History_init : jw_mI mi_History_init 0 := ⟨jq_83, jq_26, jq_84, rfl, rfl, ⟨by decide +kernel, by decide +kernel, by decide +kernel⟩⟩
theorem jm_Merger_init : jw_mI mi_Merger_init 0 := ⟨jq_123, jq_27, jq_124, rfl, rfl, ⟨by decide +kernel, by decide +kernel, by decide +kernel⟩⟩
theorem jm_Conflicts_init : jw_mI mi_Conflicts_init 0 := ⟨jq_131, jq_28, jq_132, rfl, rfl, ⟨by decide +kernel, by decide +kernel, by decide +kernel⟩⟩
theorem jm_Renames_init : jw_mI mi_Renames_init 0 := ⟨jq_147, jq_29, jq_148, rfl, rfl, ⟨by decide +kernel, by decide +kernel, by decide +kernel⟩⟩
theorem jm_Match_init : jw_mI mi_Match_init 0 := ⟨jq_153, jq_30, jq_154, rfl, rfl, ⟨by decide +kernel, by decide +kernel, by decide +kernel⟩⟩
theorem jm_Blender_init : jw_mI mi_Blender_init 0 := ⟨jq_182, jq_31, jq_183, rfl, rfl, ⟨by decide +kernel, by decide +kernel, by decide +kernel⟩⟩
theorem jm_Arrays_fill : jw_mS mi_Arrays_fill 2 := ⟨jq_237, jq_32, jq_238, ⟨by decide +kernel, by decide +kernel, by decide +kernel⟩⟩
theorem jm_Branchwork_put : jw_mV mi_Branchwork_put 3 := ⟨jq_271, jq_272, jq_23, jq_273, ⟨by decide +kernel, by decide +kernel, by decide +kernel⟩⟩
theorem jm_Branchwork_requirePath : jw_mS mi_Branchwork_requirePath 1 := ⟨jq_275, jq_23, jq_276, ⟨by decide +kernel, by decide +kernel, by decide +kernel⟩⟩
theorem jm_Throwable_init0 : jw_mI mi_Throwable_init0 0 := ⟨jq_300, jq_33, jq_301, rfl, rfl, ⟨by decide +kernel, by decide +kernel, by decide +kernel⟩⟩
theorem jm_IndexOutOfBoundsException_init : jw_mI mi_IndexOutOfBoundsException_init 1 := ⟨jq_320, jq_36, jq_321, rfl, rfl, ⟨by decide +kernel, by decide +kernel, by decide +kernel⟩⟩
theorem jm_RuntimeException_init : jw_mI mi_RuntimeException_init 1 := ⟨jq_323, jq_35, jq_324, rfl, rfl, ⟨by decide +kernel, by decide +kernel, by decide +kernel⟩⟩
theorem jm_Exception_init : jw_mI mi_Exception_init 1 := ⟨jq_326, jq_34, jq_327, rfl, rfl, ⟨by decide +kernel, by decide +kernel, by decide +kernel⟩⟩
theorem jm_Throwable_init1 : jw_mI mi_Throwable_init1 1 := ⟨jq_329, jq_33, jq_330, rfl, rfl, ⟨by decide +kernel, by decide +kernel, by decide +kernel⟩⟩
theorem jm_Tree_fileAt : jw_mV mi_Tree_fileAt 1 := ⟨jq_346, jq_347, jq_24, jq_348, ⟨by decide +kernel, by decide +kernel, by decide +kernel⟩⟩
theorem jm_Content_length : jw_mV mi_Content_length 0 := ⟨jq_350, jq_351, jq_25, jq_352, ⟨by decide +kernel, by decide +kernel, by decide +kernel⟩⟩
theorem jm_IllegalArgumentException_init : jw_mI mi_IllegalArgumentException_init 1 := ⟨jq_365, jq_38, jq_366, rfl, rfl, ⟨by decide +kernel, by decide +kernel, by decide +kernel⟩⟩
theorem jm_Content_isFull : jw_mV mi_Content_isFull 0 := ⟨jq_371, jq_372, jq_25, jq_373, ⟨by decide +kernel, by decide +kernel, by decide +kernel⟩⟩
theorem jm_IllegalStateException_init : jw_mI mi_IllegalStateException_init 1 := ⟨jq_385, jq_39, jq_386, rfl, rfl, ⟨by decide +kernel, by decide +kernel, by decide +kernel⟩⟩
theorem jm_Content_insert : jw_mV mi_Content_insert 2 := ⟨jq_391, jq_392, jq_25, jq_393, ⟨by decide +kernel, by decide +kernel, by decide +kernel⟩⟩
theorem jm_Branchwork_rename : jw_mV mi_Branchwork_rename 2 := ⟨jq_395, jq_396, jq_23, jq_397, ⟨by decide +kernel, by decide +kernel, by decide +kernel⟩⟩
theorem jm_Branchwork_requireFile : jw_mS mi_Branchwork_requireFile 2 := ⟨jq_399, jq_23, jq_400, ⟨by decide +kernel, by decide +kernel, by decide +kernel⟩⟩
theorem jm_Tree_has : jw_mV mi_Tree_has 1 := ⟨jq_402, jq_403, jq_24, jq_404, ⟨by decide +kernel, by decide +kernel, by decide +kernel⟩⟩
theorem jm_Content_exists : jw_mV mi_Content_exists 0 := ⟨jq_407, jq_408, jq_25, jq_409, ⟨by decide +kernel, by decide +kernel, by decide +kernel⟩⟩
theorem jm_Content_copyFrom : jw_mV mi_Content_copyFrom 1 := ⟨jq_413, jq_414, jq_25, jq_415, ⟨by decide +kernel, by decide +kernel, by decide +kernel⟩⟩
theorem jm_Math_min : jw_mS mi_Math_min 2 := ⟨jq_418, jq_37, jq_419, ⟨by decide +kernel, by decide +kernel, by decide +kernel⟩⟩
theorem jm_Content_lineAt : jw_mV mi_Content_lineAt 1 := ⟨jq_422, jq_423, jq_25, jq_424, ⟨by decide +kernel, by decide +kernel, by decide +kernel⟩⟩
theorem jm_Content_becomeAbsent : jw_mV mi_Content_becomeAbsent 0 := ⟨jq_426, jq_427, jq_25, jq_428, ⟨by decide +kernel, by decide +kernel, by decide +kernel⟩⟩
theorem jm_Branchwork_commit : jw_mV mi_Branchwork_commit 1 := ⟨jq_430, jq_431, jq_23, jq_432, ⟨by decide +kernel, by decide +kernel, by decide +kernel⟩⟩
theorem jm_History_isFull : jw_mV mi_History_isFull 0 := ⟨jq_435, jq_436, jq_26, jq_437, ⟨by decide +kernel, by decide +kernel, by decide +kernel⟩⟩
theorem jm_Conflicts_howMany : jw_mV mi_Conflicts_howMany 0 := ⟨jq_440, jq_441, jq_28, jq_442, ⟨by decide +kernel, by decide +kernel, by decide +kernel⟩⟩
theorem jm_Branchwork_isClean : jw_mV mi_Branchwork_isClean 0 := ⟨jq_446, jq_1, jq_23, jq_447, ⟨by decide +kernel, by decide +kernel, by decide +kernel⟩⟩
theorem jm_Branchwork_head : jw_mV mi_Branchwork_head 0 := ⟨jq_450, jq_2, jq_23, jq_451, ⟨by decide +kernel, by decide +kernel, by decide +kernel⟩⟩
theorem jm_History_treeOf : jw_mV mi_History_treeOf 1 := ⟨jq_453, jq_454, jq_26, jq_455, ⟨by decide +kernel, by decide +kernel, by decide +kernel⟩⟩
theorem jm_Tree_sameAs : jw_mV mi_Tree_sameAs 1 := ⟨jq_457, jq_458, jq_24, jq_459, ⟨by decide +kernel, by decide +kernel, by decide +kernel⟩⟩
theorem jm_Content_sameAs : jw_mV mi_Content_sameAs 1 := ⟨jq_461, jq_462, jq_25, jq_463, ⟨by decide +kernel, by decide +kernel, by decide +kernel⟩⟩
theorem jm_History_add : jw_mV mi_History_add 4 := ⟨jq_466, jq_467, jq_26, jq_468, ⟨by decide +kernel, by decide +kernel, by decide +kernel⟩⟩
theorem jm_Tree_copyFrom : jw_mV mi_Tree_copyFrom 1 := ⟨jq_470, jq_471, jq_24, jq_472, ⟨by decide +kernel, by decide +kernel, by decide +kernel⟩⟩
theorem jm_History_numberOfTree : jw_mV mi_History_numberOfTree 1 := ⟨jq_476, jq_3, jq_26, jq_477, ⟨by decide +kernel, by decide +kernel, by decide +kernel⟩⟩
theorem jm_History_numberOfContent : jw_mV mi_History_numberOfContent 2 := ⟨jq_482, jq_4, jq_26, jq_483, ⟨by decide +kernel, by decide +kernel, by decide +kernel⟩⟩
theorem jm_History_setOf : jw_mS mi_History_setOf 1 := ⟨jq_488, jq_26, jq_489, ⟨by decide +kernel, by decide +kernel, by decide +kernel⟩⟩
theorem jm_Branchwork_branch : jw_mV mi_Branchwork_branch 0 := ⟨jq_491, jq_492, jq_23, jq_493, ⟨by decide +kernel, by decide +kernel, by decide +kernel⟩⟩
theorem jm_Branchwork_change : jw_mV mi_Branchwork_change 1 := ⟨jq_497, jq_498, jq_23, jq_499, ⟨by decide +kernel, by decide +kernel, by decide +kernel⟩⟩
theorem jm_Branchwork_requireBranch : jw_mV mi_Branchwork_requireBranch 1 := ⟨jq_502, jq_5, jq_23, jq_503, ⟨by decide +kernel, by decide +kernel, by decide +kernel⟩⟩
theorem jm_Branchwork_requireCleanAndUnmerged : jw_mV mi_Branchwork_requireCleanAndUnmerged 0 := ⟨jq_507, jq_6, jq_23, jq_508, ⟨by decide +kernel, by decide +kernel, by decide +kernel⟩⟩
theorem jm_Branchwork_merge : jw_mV mi_Branchwork_merge 1 := ⟨jq_513, jq_514, jq_23, jq_515, ⟨by decide +kernel, by decide +kernel, by decide +kernel⟩⟩
theorem jm_History_commonAncestor : jw_mV mi_History_commonAncestor 2 := ⟨jq_517, jq_518, jq_26, jq_519, ⟨by decide +kernel, by decide +kernel, by decide +kernel⟩⟩
theorem jm_History_ancestorsOf : jw_mV mi_History_ancestorsOf 1 := ⟨jq_521, jq_522, jq_26, jq_523, ⟨by decide +kernel, by decide +kernel, by decide +kernel⟩⟩
theorem jm_History_withAncestors : jw_mV mi_History_withAncestors 1 := ⟨jq_525, jq_526, jq_26, jq_527, ⟨by decide +kernel, by decide +kernel, by decide +kernel⟩⟩
theorem jm_History_isIn : jw_mS mi_History_isIn 2 := ⟨jq_529, jq_26, jq_530, ⟨by decide +kernel, by decide +kernel, by decide +kernel⟩⟩
theorem jm_Merger_mergeTrees : jw_mV mi_Merger_mergeTrees 3 := ⟨jq_532, jq_533, jq_27, jq_534, ⟨by decide +kernel, by decide +kernel, by decide +kernel⟩⟩
theorem jm_Tree_clear : jw_mV mi_Tree_clear 0 := ⟨jq_536, jq_537, jq_24, jq_538, ⟨by decide +kernel, by decide +kernel, by decide +kernel⟩⟩
theorem jm_Conflicts_clear : jw_mV mi_Conflicts_clear 0 := ⟨jq_541, jq_542, jq_28, jq_543, ⟨by decide +kernel, by decide +kernel, by decide +kernel⟩⟩
theorem jm_Renames_trace : jw_mV mi_Renames_trace 2 := ⟨jq_545, jq_546, jq_29, jq_547, ⟨by decide +kernel, by decide +kernel, by decide +kernel⟩⟩
theorem jm_Renames_nearest : jw_mV mi_Renames_nearest 3 := ⟨jq_552, jq_7, jq_29, jq_553, ⟨by decide +kernel, by decide +kernel, by decide +kernel⟩⟩
theorem jm_Match_nearnessOf : jw_mV mi_Match_nearnessOf 2 := ⟨jq_556, jq_557, jq_30, jq_558, ⟨by decide +kernel, by decide +kernel, by decide +kernel⟩⟩
theorem jm_Match_measure : jw_mV mi_Match_measure 2 := ⟨jq_562, jq_8, jq_30, jq_563, ⟨by decide +kernel, by decide +kernel, by decide +kernel⟩⟩
theorem jm_Math_max : jw_mS mi_Math_max 2 := ⟨jq_567, jq_37, jq_568, ⟨by decide +kernel, by decide +kernel, by decide +kernel⟩⟩
theorem jm_Merger_mergeFile : jw_mV mi_Merger_mergeFile 4 := ⟨jq_572, jq_9, jq_27, jq_573, ⟨by decide +kernel, by decide +kernel, by decide +kernel⟩⟩
theorem jm_Renames_fateOf : jw_mV mi_Renames_fateOf 1 := ⟨jq_575, jq_576, jq_29, jq_577, ⟨by decide +kernel, by decide +kernel, by decide +kernel⟩⟩
theorem jm_Merger_mergeLeftOut : jw_mV mi_Merger_mergeLeftOut 4 := ⟨jq_580, jq_10, jq_27, jq_581, ⟨by decide +kernel, by decide +kernel, by decide +kernel⟩⟩
theorem jm_Merger_bring : jw_mV mi_Merger_bring 2 := ⟨jq_586, jq_11, jq_27, jq_587, ⟨by decide +kernel, by decide +kernel, by decide +kernel⟩⟩
theorem jm_Conflicts_tell : jw_mV mi_Conflicts_tell 2 := ⟨jq_589, jq_590, jq_28, jq_591, ⟨by decide +kernel, by decide +kernel, by decide +kernel⟩⟩
theorem jm_Blender_blendInto : jw_mV mi_Blender_blendInto 4 := ⟨jq_594, jq_595, jq_31, jq_596, ⟨by decide +kernel, by decide +kernel, by decide +kernel⟩⟩
theorem jm_Match_pairUp : jw_mV mi_Match_pairUp 2 := ⟨jq_598, jq_599, jq_30, jq_600, ⟨by decide +kernel, by decide +kernel, by decide +kernel⟩⟩
theorem jm_Content_becomeEmpty : jw_mV mi_Content_becomeEmpty 0 := ⟨jq_602, jq_603, jq_25, jq_604, ⟨by decide +kernel, by decide +kernel, by decide +kernel⟩⟩
theorem jm_Match_partnerInB : jw_mV mi_Match_partnerInB 1 := ⟨jq_607, jq_608, jq_30, jq_609, ⟨by decide +kernel, by decide +kernel, by decide +kernel⟩⟩
theorem jm_Content_becomePart : jw_mV mi_Content_becomePart 3 := ⟨jq_611, jq_612, jq_25, jq_613, ⟨by decide +kernel, by decide +kernel, by decide +kernel⟩⟩
theorem jm_Content_append : jw_mV mi_Content_append 1 := ⟨jq_616, jq_617, jq_25, jq_618, ⟨by decide +kernel, by decide +kernel, by decide +kernel⟩⟩
theorem jm_Blender_blendParts : jw_mV mi_Blender_blendParts 1 := ⟨jq_621, jq_12, jq_31, jq_622, ⟨by decide +kernel, by decide +kernel, by decide +kernel⟩⟩
theorem jm_Content_appendAll : jw_mV mi_Content_appendAll 1 := ⟨jq_625, jq_626, jq_25, jq_627, ⟨by decide +kernel, by decide +kernel, by decide +kernel⟩⟩
theorem jm_Merger_isNew : jw_mS mi_Merger_isNew 4 := ⟨jq_631, jq_27, jq_632, ⟨by decide +kernel, by decide +kernel, by decide +kernel⟩⟩
theorem jm_Renames_sourceOf : jw_mV mi_Renames_sourceOf 1 := ⟨jq_634, jq_635, jq_29, jq_636, ⟨by decide +kernel, by decide +kernel, by decide +kernel⟩⟩
theorem jm_Merger_joinNew : jw_mV mi_Merger_joinNew 3 := ⟨jq_639, jq_13, jq_27, jq_640, ⟨by decide +kernel, by decide +kernel, by decide +kernel⟩⟩
theorem jm_Merger_result : jw_mV mi_Merger_result 0 := ⟨jq_642, jq_643, jq_27, jq_644, ⟨by decide +kernel, by decide +kernel, by decide +kernel⟩⟩
theorem jm_Merger_told : jw_mV mi_Merger_told 0 := ⟨jq_646, jq_647, jq_27, jq_648, ⟨by decide +kernel, by decide +kernel, by decide +kernel⟩⟩
theorem jm_Conflicts_copyFrom : jw_mV mi_Conflicts_copyFrom 1 := ⟨jq_650, jq_651, jq_28, jq_652, ⟨by decide +kernel, by decide +kernel, by decide +kernel⟩⟩
theorem jm_Conflicts_codeOf : jw_mV mi_Conflicts_codeOf 1 := ⟨jq_656, jq_657, jq_28, jq_658, ⟨by decide +kernel, by decide +kernel, by decide +kernel⟩⟩
theorem jm_Conflicts_holds : jw_mV mi_Conflicts_holds 1 := ⟨jq_660, jq_661, jq_28, jq_662, ⟨by decide +kernel, by decide +kernel, by decide +kernel⟩⟩
theorem jm_Conflicts_pathOf : jw_mV mi_Conflicts_pathOf 1 := ⟨jq_664, jq_665, jq_28, jq_666, ⟨by decide +kernel, by decide +kernel, by decide +kernel⟩⟩
theorem jm_Branchwork_settle : jw_mV mi_Branchwork_settle 1 := ⟨jq_669, jq_670, jq_23, jq_671, ⟨by decide +kernel, by decide +kernel, by decide +kernel⟩⟩
theorem jm_Branchwork_requireConflict : jw_mV mi_Branchwork_requireConflict 1 := ⟨jq_674, jq_14, jq_23, jq_675, ⟨by decide +kernel, by decide +kernel, by decide +kernel⟩⟩
theorem jm_Conflicts_drop : jw_mV mi_Conflicts_drop 1 := ⟨jq_679, jq_680, jq_28, jq_681, ⟨by decide +kernel, by decide +kernel, by decide +kernel⟩⟩
theorem jm_Branchwork_collect : jw_mV mi_Branchwork_collect 0 := ⟨jq_683, jq_684, jq_23, jq_685, ⟨by decide +kernel, by decide +kernel, by decide +kernel⟩⟩
theorem jm_Branchwork_garbage : jw_mV mi_Branchwork_garbage 0 := ⟨jq_687, jq_688, jq_23, jq_689, ⟨by decide +kernel, by decide +kernel, by decide +kernel⟩⟩
theorem jm_History_kept : jw_mV mi_History_kept 0 := ⟨jq_691, jq_692, jq_26, jq_693, ⟨by decide +kernel, by decide +kernel, by decide +kernel⟩⟩
theorem jm_History_countObjects : jw_mV mi_History_countObjects 1 := ⟨jq_695, jq_696, jq_26, jq_697, ⟨by decide +kernel, by decide +kernel, by decide +kernel⟩⟩
theorem jm_Integer_bitCount : jw_mS mi_Integer_bitCount 1 := ⟨jq_699, jq_40, jq_700, ⟨by decide +kernel, by decide +kernel, by decide +kernel⟩⟩
theorem jm_History_countTrees : jw_mV mi_History_countTrees 1 := ⟨jq_705, jq_706, jq_26, jq_707, ⟨by decide +kernel, by decide +kernel, by decide +kernel⟩⟩
theorem jm_History_countContents : jw_mV mi_History_countContents 1 := ⟨jq_709, jq_710, jq_26, jq_711, ⟨by decide +kernel, by decide +kernel, by decide +kernel⟩⟩
theorem jm_History_meetContents : jw_mV mi_History_meetContents 1 := ⟨jq_714, jq_15, jq_26, jq_715, ⟨by decide +kernel, by decide +kernel, by decide +kernel⟩⟩
theorem jm_Branchwork_reached : jw_mV mi_Branchwork_reached 0 := ⟨jq_719, jq_16, jq_23, jq_720, ⟨by decide +kernel, by decide +kernel, by decide +kernel⟩⟩
theorem jm_History_keepOnly : jw_mV mi_History_keepOnly 1 := ⟨jq_724, jq_725, jq_26, jq_726, ⟨by decide +kernel, by decide +kernel, by decide +kernel⟩⟩
theorem jm_Branchwork_many : jw_mV mi_Branchwork_many 1 := ⟨jq_728, jq_729, jq_23, jq_730, ⟨by decide +kernel, by decide +kernel, by decide +kernel⟩⟩
theorem jm_Tree_countFiles : jw_mV mi_Tree_countFiles 0 := ⟨jq_733, jq_734, jq_24, jq_735, ⟨by decide +kernel, by decide +kernel, by decide +kernel⟩⟩
theorem jm_Branchwork_now : jw_mV mi_Branchwork_now 1 := ⟨jq_741, jq_742, jq_23, jq_743, ⟨by decide +kernel, by decide +kernel, by decide +kernel⟩⟩
theorem jm_Branchwork_at : jw_mV mi_Branchwork_at 1 := ⟨jq_746, jq_747, jq_23, jq_748, ⟨by decide +kernel, by decide +kernel, by decide +kernel⟩⟩
theorem jm_Branchwork_ofCommit : jw_mV mi_Branchwork_ofCommit 2 := ⟨jq_750, jq_751, jq_23, jq_752, ⟨by decide +kernel, by decide +kernel, by decide +kernel⟩⟩
theorem jm_Branchwork_requireCommit : jw_mV mi_Branchwork_requireCommit 1 := ⟨jq_755, jq_17, jq_23, jq_756, ⟨by decide +kernel, by decide +kernel, by decide +kernel⟩⟩
theorem jm_History_holds : jw_mV mi_History_holds 1 := ⟨jq_758, jq_759, jq_26, jq_760, ⟨by decide +kernel, by decide +kernel, by decide +kernel⟩⟩
theorem jm_History_firstParent : jw_mV mi_History_firstParent 1 := ⟨jq_763, jq_764, jq_26, jq_765, ⟨by decide +kernel, by decide +kernel, by decide +kernel⟩⟩
theorem jm_History_secondParent : jw_mV mi_History_secondParent 1 := ⟨jq_767, jq_768, jq_26, jq_769, ⟨by decide +kernel, by decide +kernel, by decide +kernel⟩⟩
theorem jm_History_noteOf : jw_mV mi_History_noteOf 1 := ⟨jq_771, jq_772, jq_26, jq_773, ⟨by decide +kernel, by decide +kernel, by decide +kernel⟩⟩
theorem jm_Branchwork_size : jw_mV mi_Branchwork_size 2 := ⟨jq_777, jq_778, jq_23, jq_779, ⟨by decide +kernel, by decide +kernel, by decide +kernel⟩⟩
theorem jm_Branchwork_fileToShow : jw_mV mi_Branchwork_fileToShow 2 := ⟨jq_782, jq_18, jq_23, jq_783, ⟨by decide +kernel, by decide +kernel, by decide +kernel⟩⟩
theorem jm_Branchwork_conflict : jw_mV mi_Branchwork_conflict 2 := ⟨jq_786, jq_787, jq_23, jq_788, ⟨by decide +kernel, by decide +kernel, by decide +kernel⟩⟩
theorem jm_Branchwork_base : jw_mV mi_Branchwork_base 2 := ⟨jq_793, jq_794, jq_23, jq_795, ⟨by decide +kernel, by decide +kernel, by decide +kernel⟩⟩
theorem jm_Branchwork_went : jw_mV mi_Branchwork_went 3 := ⟨jq_797, jq_798, jq_23, jq_799, ⟨by decide +kernel, by decide +kernel, by decide +kernel⟩⟩
theorem jm_Branchwork_changes : jw_mV mi_Branchwork_changes 3 := ⟨jq_803, jq_804, jq_23, jq_805, ⟨by decide +kernel, by decide +kernel, by decide +kernel⟩⟩
theorem jm_Branchwork_kindOfChange : jw_mV mi_Branchwork_kindOfChange 3 := ⟨jq_809, jq_19, jq_23, jq_810, ⟨by decide +kernel, by decide +kernel, by decide +kernel⟩⟩
theorem jm_Renames_howMany : jw_mV mi_Renames_howMany 0 := ⟨jq_814, jq_815, jq_29, jq_816, ⟨by decide +kernel, by decide +kernel, by decide +kernel⟩⟩
theorem jm_Branchwork_nearness : jw_mV mi_Branchwork_nearness 4 := ⟨jq_818, jq_819, jq_23, jq_820, ⟨by decide +kernel, by decide +kernel, by decide +kernel⟩⟩
theorem jm_Branchwork_origin : jw_mV mi_Branchwork_origin 3 := ⟨jq_823, jq_824, jq_23, jq_825, ⟨by decide +kernel, by decide +kernel, by decide +kernel⟩⟩
theorem jm_Branchwork_requirePlace : jw_mS mi_Branchwork_requirePlace 2 := ⟨jq_827, jq_23, jq_828, ⟨by decide +kernel, by decide +kernel, by decide +kernel⟩⟩
theorem jm_Content_holds : jw_mV mi_Content_holds 1 := ⟨jq_830, jq_831, jq_25, jq_832, ⟨by decide +kernel, by decide +kernel, by decide +kernel⟩⟩
theorem jm_Branchwork_spotInParent : jw_mV mi_Branchwork_spotInParent 3 := ⟨jq_835, jq_20, jq_23, jq_836, ⟨by decide +kernel, by decide +kernel, by decide +kernel⟩⟩
theorem jm_Match_partnerInA : jw_mV mi_Match_partnerInA 1 := ⟨jq_839, jq_840, jq_30, jq_841, ⟨by decide +kernel, by decide +kernel, by decide +kernel⟩⟩
theorem jm_Branchwork_conflictsOf : jw_mV mi_Branchwork_conflictsOf 2 := ⟨jq_843, jq_844, jq_23, jq_845, ⟨by decide +kernel, by decide +kernel, by decide +kernel⟩⟩
theorem jm_Branchwork_digest : jw_mV mi_Branchwork_digest 0 := ⟨jq_848, jq_849, jq_23, jq_850, ⟨by decide +kernel, by decide +kernel, by decide +kernel⟩⟩
theorem jm_Branchwork_fold : jw_mS mi_Branchwork_fold 2 := ⟨jq_854, jq_23, jq_855, ⟨by decide +kernel, by decide +kernel, by decide +kernel⟩⟩
theorem jm_Branchwork_status : jw_mV mi_Branchwork_status 1 := ⟨jq_860, jq_861, jq_23, jq_862, ⟨by decide +kernel, by decide +kernel, by decide +kernel⟩⟩
theorem jm_Branchwork_foldTree : jw_mS mi_Branchwork_foldTree 2 := ⟨jq_864, jq_23, jq_865, ⟨by decide +kernel, by decide +kernel, by decide +kernel⟩⟩
theorem jm_Branchwork_foldCommit : jw_mV mi_Branchwork_foldCommit 2 := ⟨jq_869, jq_21, jq_23, jq_870, ⟨by decide +kernel, by decide +kernel, by decide +kernel⟩⟩
theorem jm_BranchworkLaw_below : jw_mS mi_BranchworkLaw_below 2 := ⟨jq_873, jq_22, jq_874, ⟨by decide +kernel, by decide +kernel, by decide +kernel⟩⟩
theorem jm_BranchworkLaw_cell : jw_mS mi_BranchworkLaw_cell 2 := ⟨jq_877, jq_22, jq_878, ⟨by decide +kernel, by decide +kernel, by decide +kernel⟩⟩
theorem jm_BranchworkLaw_countRenamed : jw_mS mi_BranchworkLaw_countRenamed 3 := ⟨jq_881, jq_22, jq_882, ⟨by decide +kernel, by decide +kernel, by decide +kernel⟩⟩
theorem jm_BranchworkLaw_isClean : jw_mS mi_BranchworkLaw_isClean 1 := ⟨jq_884, jq_22, jq_885, ⟨by decide +kernel, by decide +kernel, by decide +kernel⟩⟩
end
section
/-! THE STORE AS NUMBERS: the constructors make 984 cells, whose references never change; what changes are ints. σ a i: the int at place i of the cell at address a. -/
abbrev zS : Type := Nat → Nat → Int32
abbrev zR : Type := Nat × Nat × List Nat
def iI (x : Int) : Int32 := Int32.ofInt x
def iv (σ : zS) (a i : Nat) : Int := (σ a i).toInt
theorem iI_iv (σ : zS) (a i : Nat) : iI (iv σ a i) = σ a i := Int32.ofInt_toInt _
theorem rgI (x : Int32) : -2147483648 ≤ x.toInt ∧ x.toInt < 2147483648 := by
  have h1 := Int32.le_toInt x
  have h2 := Int32.toInt_lt x
  omega
theorem rg_iv (σ : zS) (a i : Nat) : -2147483648 ≤ iv σ a i ∧ iv σ a i < 2147483648 := rgI _
theorem z_bmod {z : Int} (h1 : -2147483648 ≤ z) (h2 : z < 2147483648) : z.bmod (2 ^ 32) = z := by
  rw [Int.bmod_eq_of_le (by omega) (by omega)]
theorem iI_to {z : Int} (h : -2147483648 ≤ z ∧ z < 2147483648) : (iI z).toInt = z := by
  unfold iI
  rw [Int32.toInt_ofInt, z_bmod h.1 h.2]
theorem iI_add (x y : Int) : iI x + iI y = iI (x + y) := (Int32.ofInt_add x y).symm
theorem iI_sub (x y : Int) : iI x - iI y = iI (x - y) := (Int32.ofInt_sub x y).symm
theorem iI_mul (x y : Int) : iI x * iI y = iI (x * y) := (Int32.ofInt_mul x y).symm
theorem iI_0 : (0 : Int32) = iI 0 := by decide
theorem iI_le {x y : Int} (hx : -2147483648 ≤ x ∧ x < 2147483648) (hy : -2147483648 ≤ y ∧ y < 2147483648) : iI x ≤ iI y ↔ x ≤ y := by
  rw [Int32.le_iff_toInt_le, iI_to hx, iI_to hy]
theorem iI_lt {x y : Int} (hx : -2147483648 ≤ x ∧ x < 2147483648) (hy : -2147483648 ≤ y ∧ y < 2147483648) : iI x < iI y ↔ x < y := by
  rw [Int32.lt_iff_toInt_lt, iI_to hx, iI_to hy]
theorem iI_inj {x y : Int} (hx : -2147483648 ≤ x ∧ x < 2147483648) (hy : -2147483648 ≤ y ∧ y < 2147483648) : iI x = iI y ↔ x = y := by
  constructor
  · intro h
    have := congrArg Int32.toInt h
    rwa [iI_to hx, iI_to hy] at this
  · rintro rfl; rfl
theorem iI_nat (n : Nat) : iI (n : Int) = nI n := by
  apply Int32.toBitVec_inj.mp
  show BitVec.ofInt 32 (n : Int) = BitVec.ofNat 32 n
  exact BitVec.ofInt_natCast 32 n
theorem iI_div {x y : Int} (hx : 0 ≤ x ∧ x < 2147483648) (hy : 0 < y ∧ y < 2147483648) : iI x / iI y = iI (x / y) := by
  apply Int32.toInt_inj.mp
  have h1 : x / y ≤ x := Int.ediv_le_self y hx.1
  have h2 : 0 ≤ x / y := Int.ediv_nonneg hx.1 (by omega)
  rw [Int32.toInt_div, iI_to (by omega), iI_to (by omega), iI_to (by omega), Int.tdiv_eq_ediv_of_nonneg hx.1, Int.bmod_eq_of_le (by omega) (by omega)]
theorem iI_rem {x y : Int} (hx : 0 ≤ x ∧ x < 2147483648) (hy : 0 < y ∧ y < 2147483648) : iI x - iI x / iI y * iI y = iI (x % y) := by
  rw [iI_div hx hy, iI_mul, iI_sub, Int.emod_def, Int.mul_comm]
theorem iI_and (m n : Nat) : iI (m : Int) &&& iI (n : Int) = iI ((m &&& n : Nat) : Int) := by
  rw [iI_nat, iI_nat, iI_nat]
  apply Int32.toBitVec_inj.1
  show BitVec.ofNat 32 m &&& BitVec.ofNat 32 n = BitVec.ofNat 32 (m &&& n)
  apply BitVec.eq_of_getLsbD_eq
  intro i hi
  simp [hi]
theorem iI_or (m n : Nat) : iI (m : Int) ||| iI (n : Int) = iI ((m ||| n : Nat) : Int) := by
  rw [iI_nat, iI_nat, iI_nat]
  apply Int32.toBitVec_inj.1
  show BitVec.ofNat 32 m ||| BitVec.ofNat 32 n = BitVec.ofNat 32 (m ||| n)
  apply BitVec.eq_of_getLsbD_eq
  intro i hi
  simp [hi]
theorem iI_shl : ∀ i : Nat, i < 31 → (1 : Int32) <<< (nI i &&& 31) = nI (2 ^ i) := by decide +kernel
/-- the base: the address of the store's own object -/
def zb (o : jw_O) : Nat := o.2.2.2.1
def zt : List zR := [(8, 0, [2, 30, 906, 970, 973, 980, 984, 0, 0, 0]), (1, 0, [3, 4]), (22, 12, [5, 7, 9, 11, 13, 15, 17, 19, 21, 23, 25, 27]), (0, 0, [5, 0, 0]), (20, 10, []), (0, 0, [7, 0, 0]), (20, 10, []), (0, 0, [9, 0, 0]), (20, 10, []), (0, 0, [11, 0, 0]), (20, 10, []), (0, 0, [13, 0, 0]), (20, 10, []), (0, 0, [15, 0, 0]), (20, 10, []), (0, 0, [17, 0, 0]), (20, 10, []), (0, 0, [19, 0, 0]), (20, 10, []), (0, 0, [21, 0, 0]), (20, 10, []), (0, 0, [23, 0, 0]), (20, 10, []), (0, 0, [25, 0, 0]), (20, 10, []), (0, 0, [27, 0, 0]), (20, 10, []), (0, 0, [29, 0, 0]), (20, 10, []), (7, 0, [31, 32, 60, 61, 62, 63, 64, 65, 0, 0]), (23, 30, [65, 93, 121, 149, 177, 205, 233, 261, 289, 317, 345, 373, 401, 429, 457, 485, 513, 541, 569, 597, 625, 653, 681, 709, 737, 765, 793, 821, 849, 877]), (1, 0, [33, 34]), (22, 12, [35, 37, 39, 41, 43, 45, 47, 49, 51, 53, 55, 57]), (0, 0, [35, 0, 0]), (20, 10, []), (0, 0, [37, 0, 0]), (20, 10, []), (0, 0, [39, 0, 0]), (20, 10, []), (0, 0, [41, 0, 0]), (20, 10, []), (0, 0, [43, 0, 0]), (20, 10, []), (0, 0, [45, 0, 0]), (20, 10, []), (0, 0, [47, 0, 0]), (20, 10, []), (0, 0, [49, 0, 0]), (20, 10, []), (0, 0, [51, 0, 0]), (20, 10, []), (0, 0, [53, 0, 0]), (20, 10, []), (0, 0, [55, 0, 0]), (20, 10, []), (0, 0, [57, 0, 0]), (20, 10, []), (0, 0, [59, 0, 0]), (20, 10, []), (20, 30, []), (20, 30, []), (20, 30, []), (20, 30, []), (20, 360, []), (20, 360, []), (1, 0, [67, 68]), (22, 12, [69, 71, 73, 75, 77, 79, 81, 83, 85, 87, 89, 91]), (0, 0, [69, 0, 0]), (20, 10, []), (0, 0, [71, 0, 0]), (20, 10, []), (0, 0, [73, 0, 0]), (20, 10, []), (0, 0, [75, 0, 0]), (20, 10, []), (0, 0, [77, 0, 0]), (20, 10, []), (0, 0, [79, 0, 0]), (20, 10, []), (0, 0, [81, 0, 0]), (20, 10, []), (0, 0, [83, 0, 0]), (20, 10, []), (0, 0, [85, 0, 0]), (20, 10, []), (0, 0, [87, 0, 0]), (20, 10, []), (0, 0, [89, 0, 0]), (20, 10, []), (0, 0, [91, 0, 0]), (20, 10, []), (0, 0, [93, 0, 0]), (20, 10, []), (1, 0, [95, 96]), (22, 12, [97, 99, 101, 103, 105, 107, 109, 111, 113, 115, 117, 119]), (0, 0, [97, 0, 0]), (20, 10, []), (0, 0, [99, 0, 0]), (20, 10, []), (0, 0, [101, 0, 0]), (20, 10, []), (0, 0, [103, 0, 0]), (20, 10, []), (0, 0, [105, 0, 0]), (20, 10, []), (0, 0, [107, 0, 0]), (20, 10, []), (0, 0, [109, 0, 0]), (20, 10, []), (0, 0, [111, 0, 0]), (20, 10, []), (0, 0, [113, 0, 0]), (20, 10, []), (0, 0, [115, 0, 0]), (20, 10, []), (0, 0, [117, 0, 0]), (20, 10, []), (0, 0, [119, 0, 0]), (20, 10, []), (0, 0, [121, 0, 0]), (20, 10, []), (1, 0, [123, 124]), (22, 12, [125, 127, 129, 131, 133, 135, 137, 139, 141, 143, 145, 147]), (0, 0, [125, 0, 0]), (20, 10, []), (0, 0, [127, 0, 0]), (20, 10, []), (0, 0, [129, 0, 0]), (20, 10, []), (0, 0, [131, 0, 0]), (20, 10, []), (0, 0, [133, 0, 0]), (20, 10, []), (0, 0, [135, 0, 0]), (20, 10, []), (0, 0, [137, 0, 0]), (20, 10, []), (0, 0, [139, 0, 0]), (20, 10, []), (0, 0, [141, 0, 0]), (20, 10, []), (0, 0, [143, 0, 0]), (20, 10, []), (0, 0, [145, 0, 0]), (20, 10, []), (0, 0, [147, 0, 0]), (20, 10, []), (0, 0, [149, 0, 0]), (20, 10, []), (1, 0, [151, 152]), (22, 12, [153, 155, 157, 159, 161, 163, 165, 167, 169, 171, 173, 175]), (0, 0, [153, 0, 0]), (20, 10, []), (0, 0, [155, 0, 0]), (20, 10, []), (0, 0, [157, 0, 0]), (20, 10, []), (0, 0, [159, 0, 0]), (20, 10, []), (0, 0, [161, 0, 0]), (20, 10, []), (0, 0, [163, 0, 0]), (20, 10, []), (0, 0, [165, 0, 0]), (20, 10, []), (0, 0, [167, 0, 0]), (20, 10, []), (0, 0, [169, 0, 0]), (20, 10, []), (0, 0, [171, 0, 0]), (20, 10, []), (0, 0, [173, 0, 0]), (20, 10, []), (0, 0, [175, 0, 0]), (20, 10, []), (0, 0, [177, 0, 0]), (20, 10, []), (1, 0, [179, 180]), (22, 12, [181, 183, 185, 187, 189, 191, 193, 195, 197, 199, 201, 203]), (0, 0, [181, 0, 0]), (20, 10, []), (0, 0, [183, 0, 0]), (20, 10, []), (0, 0, [185, 0, 0]), (20, 10, []), (0, 0, [187, 0, 0]), (20, 10, []), (0, 0, [189, 0, 0]), (20, 10, []), (0, 0, [191, 0, 0]), (20, 10, []), (0, 0, [193, 0, 0]), (20, 10, []), (0, 0, [195, 0, 0]), (20, 10, []), (0, 0, [197, 0, 0]), (20, 10, []), (0, 0, [199, 0, 0]), (20, 10, []), (0, 0, [201, 0, 0]), (20, 10, []), (0, 0, [203, 0, 0]), (20, 10, []), (0, 0, [205, 0, 0]), (20, 10, []), (1, 0, [207, 208]), (22, 12, [209, 211, 213, 215, 217, 219, 221, 223, 225, 227, 229, 231]), (0, 0, [209, 0, 0]), (20, 10, []), (0, 0, [211, 0, 0]), (20, 10, []), (0, 0, [213, 0, 0]), (20, 10, []), (0, 0, [215, 0, 0]), (20, 10, []), (0, 0, [217, 0, 0]), (20, 10, []), (0, 0, [219, 0, 0]), (20, 10, []), (0, 0, [221, 0, 0]), (20, 10, []), (0, 0, [223, 0, 0]), (20, 10, []), (0, 0, [225, 0, 0]), (20, 10, []), (0, 0, [227, 0, 0]), (20, 10, []), (0, 0, [229, 0, 0]), (20, 10, []), (0, 0, [231, 0, 0]), (20, 10, []), (0, 0, [233, 0, 0]), (20, 10, []), (1, 0, [235, 236]), (22, 12, [237, 239, 241, 243, 245, 247, 249, 251, 253, 255, 257, 259]), (0, 0, [237, 0, 0]), (20, 10, []), (0, 0, [239, 0, 0]), (20, 10, []), (0, 0, [241, 0, 0]), (20, 10, []), (0, 0, [243, 0, 0]), (20, 10, []), (0, 0, [245, 0, 0]), (20, 10, []), (0, 0, [247, 0, 0]), (20, 10, []), (0, 0, [249, 0, 0]), (20, 10, []), (0, 0, [251, 0, 0]), (20, 10, []), (0, 0, [253, 0, 0]), (20, 10, []), (0, 0, [255, 0, 0]), (20, 10, []), (0, 0, [257, 0, 0]), (20, 10, []), (0, 0, [259, 0, 0]), (20, 10, []), (0, 0, [261, 0, 0]), (20, 10, []), (1, 0, [263, 264]), (22, 12, [265, 267, 269, 271, 273, 275, 277, 279, 281, 283, 285, 287]), (0, 0, [265, 0, 0]), (20, 10, []), (0, 0, [267, 0, 0]), (20, 10, []), (0, 0, [269, 0, 0]), (20, 10, []), (0, 0, [271, 0, 0]), (20, 10, []), (0, 0, [273, 0, 0]), (20, 10, []), (0, 0, [275, 0, 0]), (20, 10, []), (0, 0, [277, 0, 0]), (20, 10, []), (0, 0, [279, 0, 0]), (20, 10, []), (0, 0, [281, 0, 0]), (20, 10, []), (0, 0, [283, 0, 0]), (20, 10, []), (0, 0, [285, 0, 0]), (20, 10, []), (0, 0, [287, 0, 0]), (20, 10, []), (0, 0, [289, 0, 0]), (20, 10, []), (1, 0, [291, 292]), (22, 12, [293, 295, 297, 299, 301, 303, 305, 307, 309, 311, 313, 315]), (0, 0, [293, 0, 0]), (20, 10, []), (0, 0, [295, 0, 0]), (20, 10, []), (0, 0, [297, 0, 0]), (20, 10, []), (0, 0, [299, 0, 0]), (20, 10, []), (0, 0, [301, 0, 0]), (20, 10, []), (0, 0, [303, 0, 0]), (20, 10, []), (0, 0, [305, 0, 0]), (20, 10, []), (0, 0, [307, 0, 0]), (20, 10, []), (0, 0, [309, 0, 0]), (20, 10, []), (0, 0, [311, 0, 0]), (20, 10, []), (0, 0, [313, 0, 0]), (20, 10, []), (0, 0, [315, 0, 0]), (20, 10, []), (0, 0, [317, 0, 0]), (20, 10, []), (1, 0, [319, 320]), (22, 12, [321, 323, 325, 327, 329, 331, 333, 335, 337, 339, 341, 343]), (0, 0, [321, 0, 0]), (20, 10, []), (0, 0, [323, 0, 0]), (20, 10, []), (0, 0, [325, 0, 0]), (20, 10, []), (0, 0, [327, 0, 0]), (20, 10, []), (0, 0, [329, 0, 0]), (20, 10, []), (0, 0, [331, 0, 0]), (20, 10, []), (0, 0, [333, 0, 0]), (20, 10, []), (0, 0, [335, 0, 0]), (20, 10, []), (0, 0, [337, 0, 0]), (20, 10, []), (0, 0, [339, 0, 0]), (20, 10, []), (0, 0, [341, 0, 0]), (20, 10, []), (0, 0, [343, 0, 0]), (20, 10, []), (0, 0, [345, 0, 0]), (20, 10, []), (1, 0, [347, 348]), (22, 12, [349, 351, 353, 355, 357, 359, 361, 363, 365, 367, 369, 371]), (0, 0, [349, 0, 0]), (20, 10, []), (0, 0, [351, 0, 0]), (20, 10, []), (0, 0, [353, 0, 0]), (20, 10, []), (0, 0, [355, 0, 0]), (20, 10, []), (0, 0, [357, 0, 0]), (20, 10, []), (0, 0, [359, 0, 0]), (20, 10, []), (0, 0, [361, 0, 0]), (20, 10, []), (0, 0, [363, 0, 0]), (20, 10, []), (0, 0, [365, 0, 0]), (20, 10, []), (0, 0, [367, 0, 0]), (20, 10, []), (0, 0, [369, 0, 0]), (20, 10, []), (0, 0, [371, 0, 0]), (20, 10, []), (0, 0, [373, 0, 0]), (20, 10, []), (1, 0, [375, 376]), (22, 12, [377, 379, 381, 383, 385, 387, 389, 391, 393, 395, 397, 399]), (0, 0, [377, 0, 0]), (20, 10, []), (0, 0, [379, 0, 0]), (20, 10, []), (0, 0, [381, 0, 0]), (20, 10, []), (0, 0, [383, 0, 0]), (20, 10, []), (0, 0, [385, 0, 0]), (20, 10, []), (0, 0, [387, 0, 0]), (20, 10, []), (0, 0, [389, 0, 0]), (20, 10, []), (0, 0, [391, 0, 0]), (20, 10, []), (0, 0, [393, 0, 0]), (20, 10, []), (0, 0, [395, 0, 0]), (20, 10, []), (0, 0, [397, 0, 0]), (20, 10, []), (0, 0, [399, 0, 0]), (20, 10, []), (0, 0, [401, 0, 0]), (20, 10, []), (1, 0, [403, 404]), (22, 12, [405, 407, 409, 411, 413, 415, 417, 419, 421, 423, 425, 427]), (0, 0, [405, 0, 0]), (20, 10, []), (0, 0, [407, 0, 0]), (20, 10, []), (0, 0, [409, 0, 0]), (20, 10, []), (0, 0, [411, 0, 0]), (20, 10, []), (0, 0, [413, 0, 0]), (20, 10, []), (0, 0, [415, 0, 0]), (20, 10, []), (0, 0, [417, 0, 0]), (20, 10, []), (0, 0, [419, 0, 0]), (20, 10, []), (0, 0, [421, 0, 0]), (20, 10, []), (0, 0, [423, 0, 0]), (20, 10, []), (0, 0, [425, 0, 0]), (20, 10, []), (0, 0, [427, 0, 0]), (20, 10, []), (0, 0, [429, 0, 0]), (20, 10, []), (1, 0, [431, 432]), (22, 12, [433, 435, 437, 439, 441, 443, 445, 447, 449, 451, 453, 455]), (0, 0, [433, 0, 0]), (20, 10, []), (0, 0, [435, 0, 0]), (20, 10, []), (0, 0, [437, 0, 0]), (20, 10, []), (0, 0, [439, 0, 0]), (20, 10, []), (0, 0, [441, 0, 0]), (20, 10, []), (0, 0, [443, 0, 0]), (20, 10, []), (0, 0, [445, 0, 0]), (20, 10, []), (0, 0, [447, 0, 0]), (20, 10, []), (0, 0, [449, 0, 0]), (20, 10, []), (0, 0, [451, 0, 0]), (20, 10, []), (0, 0, [453, 0, 0]), (20, 10, []), (0, 0, [455, 0, 0]), (20, 10, []), (0, 0, [457, 0, 0]), (20, 10, []), (1, 0, [459, 460]), (22, 12, [461, 463, 465, 467, 469, 471, 473, 475, 477, 479, 481, 483]), (0, 0, [461, 0, 0]), (20, 10, []), (0, 0, [463, 0, 0]), (20, 10, []), (0, 0, [465, 0, 0]), (20, 10, []), (0, 0, [467, 0, 0]), (20, 10, []), (0, 0, [469, 0, 0]), (20, 10, []), (0, 0, [471, 0, 0]), (20, 10, []), (0, 0, [473, 0, 0]), (20, 10, []), (0, 0, [475, 0, 0]), (20, 10, []), (0, 0, [477, 0, 0]), (20, 10, []), (0, 0, [479, 0, 0]), (20, 10, []), (0, 0, [481, 0, 0]), (20, 10, []), (0, 0, [483, 0, 0]), (20, 10, []), (0, 0, [485, 0, 0]), (20, 10, []), (1, 0, [487, 488]), (22, 12, [489, 491, 493, 495, 497, 499, 501, 503, 505, 507, 509, 511]), (0, 0, [489, 0, 0]), (20, 10, []), (0, 0, [491, 0, 0]), (20, 10, []), (0, 0, [493, 0, 0]), (20, 10, []), (0, 0, [495, 0, 0]), (20, 10, []), (0, 0, [497, 0, 0]), (20, 10, []), (0, 0, [499, 0, 0]), (20, 10, []), (0, 0, [501, 0, 0]), (20, 10, []), (0, 0, [503, 0, 0]), (20, 10, []), (0, 0, [505, 0, 0]), (20, 10, []), (0, 0, [507, 0, 0]), (20, 10, []), (0, 0, [509, 0, 0]), (20, 10, []), (0, 0, [511, 0, 0]), (20, 10, []), (0, 0, [513, 0, 0]), (20, 10, []), (1, 0, [515, 516]), (22, 12, [517, 519, 521, 523, 525, 527, 529, 531, 533, 535, 537, 539]), (0, 0, [517, 0, 0]), (20, 10, []), (0, 0, [519, 0, 0]), (20, 10, []), (0, 0, [521, 0, 0]), (20, 10, []), (0, 0, [523, 0, 0]), (20, 10, []), (0, 0, [525, 0, 0]), (20, 10, []), (0, 0, [527, 0, 0]), (20, 10, []), (0, 0, [529, 0, 0]), (20, 10, []), (0, 0, [531, 0, 0]), (20, 10, []), (0, 0, [533, 0, 0]), (20, 10, []), (0, 0, [535, 0, 0]), (20, 10, []), (0, 0, [537, 0, 0]), (20, 10, []), (0, 0, [539, 0, 0]), (20, 10, []), (0, 0, [541, 0, 0]), (20, 10, []), (1, 0, [543, 544]), (22, 12, [545, 547, 549, 551, 553, 555, 557, 559, 561, 563, 565, 567]), (0, 0, [545, 0, 0]), (20, 10, []), (0, 0, [547, 0, 0]), (20, 10, []), (0, 0, [549, 0, 0]), (20, 10, []), (0, 0, [551, 0, 0]), (20, 10, []), (0, 0, [553, 0, 0]), (20, 10, []), (0, 0, [555, 0, 0]), (20, 10, []), (0, 0, [557, 0, 0]), (20, 10, []), (0, 0, [559, 0, 0]), (20, 10, []), (0, 0, [561, 0, 0]), (20, 10, []), (0, 0, [563, 0, 0]), (20, 10, []), (0, 0, [565, 0, 0]), (20, 10, []), (0, 0, [567, 0, 0]), (20, 10, []), (0, 0, [569, 0, 0]), (20, 10, []), (1, 0, [571, 572]), (22, 12, [573, 575, 577, 579, 581, 583, 585, 587, 589, 591, 593, 595]), (0, 0, [573, 0, 0]), (20, 10, []), (0, 0, [575, 0, 0]), (20, 10, []), (0, 0, [577, 0, 0]), (20, 10, []), (0, 0, [579, 0, 0]), (20, 10, []), (0, 0, [581, 0, 0]), (20, 10, []), (0, 0, [583, 0, 0]), (20, 10, []), (0, 0, [585, 0, 0]), (20, 10, []), (0, 0, [587, 0, 0]), (20, 10, []), (0, 0, [589, 0, 0]), (20, 10, []), (0, 0, [591, 0, 0]), (20, 10, []), (0, 0, [593, 0, 0]), (20, 10, []), (0, 0, [595, 0, 0]), (20, 10, []), (0, 0, [597, 0, 0]), (20, 10, []), (1, 0, [599, 600]), (22, 12, [601, 603, 605, 607, 609, 611, 613, 615, 617, 619, 621, 623]), (0, 0, [601, 0, 0]), (20, 10, []), (0, 0, [603, 0, 0]), (20, 10, []), (0, 0, [605, 0, 0]), (20, 10, []), (0, 0, [607, 0, 0]), (20, 10, []), (0, 0, [609, 0, 0]), (20, 10, []), (0, 0, [611, 0, 0]), (20, 10, []), (0, 0, [613, 0, 0]), (20, 10, []), (0, 0, [615, 0, 0]), (20, 10, []), (0, 0, [617, 0, 0]), (20, 10, []), (0, 0, [619, 0, 0]), (20, 10, []), (0, 0, [621, 0, 0]), (20, 10, []), (0, 0, [623, 0, 0]), (20, 10, []), (0, 0, [625, 0, 0]), (20, 10, []), (1, 0, [627, 628]), (22, 12, [629, 631, 633, 635, 637, 639, 641, 643, 645, 647, 649, 651]), (0, 0, [629, 0, 0]), (20, 10, []), (0, 0, [631, 0, 0]), (20, 10, []), (0, 0, [633, 0, 0]), (20, 10, []), (0, 0, [635, 0, 0]), (20, 10, []), (0, 0, [637, 0, 0]), (20, 10, []), (0, 0, [639, 0, 0]), (20, 10, []), (0, 0, [641, 0, 0]), (20, 10, []), (0, 0, [643, 0, 0]), (20, 10, []), (0, 0, [645, 0, 0]), (20, 10, []), (0, 0, [647, 0, 0]), (20, 10, []), (0, 0, [649, 0, 0]), (20, 10, []), (0, 0, [651, 0, 0]), (20, 10, []), (0, 0, [653, 0, 0]), (20, 10, []), (1, 0, [655, 656]), (22, 12, [657, 659, 661, 663, 665, 667, 669, 671, 673, 675, 677, 679]), (0, 0, [657, 0, 0]), (20, 10, []), (0, 0, [659, 0, 0]), (20, 10, []), (0, 0, [661, 0, 0]), (20, 10, []), (0, 0, [663, 0, 0]), (20, 10, []), (0, 0, [665, 0, 0]), (20, 10, []), (0, 0, [667, 0, 0]), (20, 10, []), (0, 0, [669, 0, 0]), (20, 10, []), (0, 0, [671, 0, 0]), (20, 10, []), (0, 0, [673, 0, 0]), (20, 10, []), (0, 0, [675, 0, 0]), (20, 10, []), (0, 0, [677, 0, 0]), (20, 10, []), (0, 0, [679, 0, 0]), (20, 10, []), (0, 0, [681, 0, 0]), (20, 10, []), (1, 0, [683, 684]), (22, 12, [685, 687, 689, 691, 693, 695, 697, 699, 701, 703, 705, 707]), (0, 0, [685, 0, 0]), (20, 10, []), (0, 0, [687, 0, 0]), (20, 10, []), (0, 0, [689, 0, 0]), (20, 10, []), (0, 0, [691, 0, 0]), (20, 10, []), (0, 0, [693, 0, 0]), (20, 10, []), (0, 0, [695, 0, 0]), (20, 10, []), (0, 0, [697, 0, 0]), (20, 10, []), (0, 0, [699, 0, 0]), (20, 10, []), (0, 0, [701, 0, 0]), (20, 10, []), (0, 0, [703, 0, 0]), (20, 10, []), (0, 0, [705, 0, 0]), (20, 10, []), (0, 0, [707, 0, 0]), (20, 10, []), (0, 0, [709, 0, 0]), (20, 10, []), (1, 0, [711, 712]), (22, 12, [713, 715, 717, 719, 721, 723, 725, 727, 729, 731, 733, 735]), (0, 0, [713, 0, 0]), (20, 10, []), (0, 0, [715, 0, 0]), (20, 10, []), (0, 0, [717, 0, 0]), (20, 10, []), (0, 0, [719, 0, 0]), (20, 10, []), (0, 0, [721, 0, 0]), (20, 10, []), (0, 0, [723, 0, 0]), (20, 10, []), (0, 0, [725, 0, 0]), (20, 10, []), (0, 0, [727, 0, 0]), (20, 10, []), (0, 0, [729, 0, 0]), (20, 10, []), (0, 0, [731, 0, 0]), (20, 10, []), (0, 0, [733, 0, 0]), (20, 10, []), (0, 0, [735, 0, 0]), (20, 10, []), (0, 0, [737, 0, 0]), (20, 10, []), (1, 0, [739, 740]), (22, 12, [741, 743, 745, 747, 749, 751, 753, 755, 757, 759, 761, 763]), (0, 0, [741, 0, 0]), (20, 10, []), (0, 0, [743, 0, 0]), (20, 10, []), (0, 0, [745, 0, 0]), (20, 10, []), (0, 0, [747, 0, 0]), (20, 10, []), (0, 0, [749, 0, 0]), (20, 10, []), (0, 0, [751, 0, 0]), (20, 10, []), (0, 0, [753, 0, 0]), (20, 10, []), (0, 0, [755, 0, 0]), (20, 10, []), (0, 0, [757, 0, 0]), (20, 10, []), (0, 0, [759, 0, 0]), (20, 10, []), (0, 0, [761, 0, 0]), (20, 10, []), (0, 0, [763, 0, 0]), (20, 10, []), (0, 0, [765, 0, 0]), (20, 10, []), (1, 0, [767, 768]), (22, 12, [769, 771, 773, 775, 777, 779, 781, 783, 785, 787, 789, 791]), (0, 0, [769, 0, 0]), (20, 10, []), (0, 0, [771, 0, 0]), (20, 10, []), (0, 0, [773, 0, 0]), (20, 10, []), (0, 0, [775, 0, 0]), (20, 10, []), (0, 0, [777, 0, 0]), (20, 10, []), (0, 0, [779, 0, 0]), (20, 10, []), (0, 0, [781, 0, 0]), (20, 10, []), (0, 0, [783, 0, 0]), (20, 10, []), (0, 0, [785, 0, 0]), (20, 10, []), (0, 0, [787, 0, 0]), (20, 10, []), (0, 0, [789, 0, 0]), (20, 10, []), (0, 0, [791, 0, 0]), (20, 10, []), (0, 0, [793, 0, 0]), (20, 10, []), (1, 0, [795, 796]), (22, 12, [797, 799, 801, 803, 805, 807, 809, 811, 813, 815, 817, 819]), (0, 0, [797, 0, 0]), (20, 10, []), (0, 0, [799, 0, 0]), (20, 10, []), (0, 0, [801, 0, 0]), (20, 10, []), (0, 0, [803, 0, 0]), (20, 10, []), (0, 0, [805, 0, 0]), (20, 10, []), (0, 0, [807, 0, 0]), (20, 10, []), (0, 0, [809, 0, 0]), (20, 10, []), (0, 0, [811, 0, 0]), (20, 10, []), (0, 0, [813, 0, 0]), (20, 10, []), (0, 0, [815, 0, 0]), (20, 10, []), (0, 0, [817, 0, 0]), (20, 10, []), (0, 0, [819, 0, 0]), (20, 10, []), (0, 0, [821, 0, 0]), (20, 10, []), (1, 0, [823, 824]), (22, 12, [825, 827, 829, 831, 833, 835, 837, 839, 841, 843, 845, 847]), (0, 0, [825, 0, 0]), (20, 10, []), (0, 0, [827, 0, 0]), (20, 10, []), (0, 0, [829, 0, 0]), (20, 10, []), (0, 0, [831, 0, 0]), (20, 10, []), (0, 0, [833, 0, 0]), (20, 10, []), (0, 0, [835, 0, 0]), (20, 10, []), (0, 0, [837, 0, 0]), (20, 10, []), (0, 0, [839, 0, 0]), (20, 10, []), (0, 0, [841, 0, 0]), (20, 10, []), (0, 0, [843, 0, 0]), (20, 10, []), (0, 0, [845, 0, 0]), (20, 10, []), (0, 0, [847, 0, 0]), (20, 10, []), (0, 0, [849, 0, 0]), (20, 10, []), (1, 0, [851, 852]), (22, 12, [853, 855, 857, 859, 861, 863, 865, 867, 869, 871, 873, 875]), (0, 0, [853, 0, 0]), (20, 10, []), (0, 0, [855, 0, 0]), (20, 10, []), (0, 0, [857, 0, 0]), (20, 10, []), (0, 0, [859, 0, 0]), (20, 10, []), (0, 0, [861, 0, 0]), (20, 10, []), (0, 0, [863, 0, 0]), (20, 10, []), (0, 0, [865, 0, 0]), (20, 10, []), (0, 0, [867, 0, 0]), (20, 10, []), (0, 0, [869, 0, 0]), (20, 10, []), (0, 0, [871, 0, 0]), (20, 10, []), (0, 0, [873, 0, 0]), (20, 10, []), (0, 0, [875, 0, 0]), (20, 10, []), (0, 0, [877, 0, 0]), (20, 10, []), (1, 0, [879, 880]), (22, 12, [881, 883, 885, 887, 889, 891, 893, 895, 897, 899, 901, 903]), (0, 0, [881, 0, 0]), (20, 10, []), (0, 0, [883, 0, 0]), (20, 10, []), (0, 0, [885, 0, 0]), (20, 10, []), (0, 0, [887, 0, 0]), (20, 10, []), (0, 0, [889, 0, 0]), (20, 10, []), (0, 0, [891, 0, 0]), (20, 10, []), (0, 0, [893, 0, 0]), (20, 10, []), (0, 0, [895, 0, 0]), (20, 10, []), (0, 0, [897, 0, 0]), (20, 10, []), (0, 0, [899, 0, 0]), (20, 10, []), (0, 0, [901, 0, 0]), (20, 10, []), (0, 0, [903, 0, 0]), (20, 10, []), (0, 0, [905, 0, 0]), (20, 10, []), (6, 0, [907, 935, 938, 945, 952, 967, 969]), (1, 0, [908, 909]), (22, 12, [910, 912, 914, 916, 918, 920, 922, 924, 926, 928, 930, 932]), (0, 0, [910, 0, 0]), (20, 10, []), (0, 0, [912, 0, 0]), (20, 10, []), (0, 0, [914, 0, 0]), (20, 10, []), (0, 0, [916, 0, 0]), (20, 10, []), (0, 0, [918, 0, 0]), (20, 10, []), (0, 0, [920, 0, 0]), (20, 10, []), (0, 0, [922, 0, 0]), (20, 10, []), (0, 0, [924, 0, 0]), (20, 10, []), (0, 0, [926, 0, 0]), (20, 10, []), (0, 0, [928, 0, 0]), (20, 10, []), (0, 0, [930, 0, 0]), (20, 10, []), (0, 0, [932, 0, 0]), (20, 10, []), (0, 0, [934, 0, 0]), (20, 10, []), (5, 0, [936, 937, 0]), (20, 24, []), (20, 24, []), (3, 0, [939, 940, 941, 0]), (20, 12, []), (20, 12, []), (2, 0, [942, 943, 944]), (20, 121, []), (20, 10, []), (20, 10, []), (3, 0, [946, 947, 948, 0]), (20, 12, []), (20, 12, []), (2, 0, [949, 950, 951]), (20, 121, []), (20, 10, []), (20, 10, []), (4, 0, [953, 957, 961, 963, 965]), (2, 0, [954, 955, 956]), (20, 121, []), (20, 10, []), (20, 10, []), (2, 0, [958, 959, 960]), (20, 121, []), (20, 10, []), (20, 10, []), (0, 0, [962, 0, 0]), (20, 10, []), (0, 0, [964, 0, 0]), (20, 10, []), (0, 0, [966, 0, 0]), (20, 10, []), (0, 0, [968, 0, 0]), (20, 10, []), (21, 12, []), (5, 0, [971, 972, 0]), (20, 24, []), (20, 24, []), (3, 0, [974, 975, 976, 0]), (20, 12, []), (20, 12, []), (2, 0, [977, 978, 979]), (20, 121, []), (20, 10, []), (20, 10, []), (2, 0, [981, 982, 983]), (20, 121, []), (20, 10, []), (20, 10, []), (20, 5, [])]
def zf (o : jw_O) (σ : zS) (a : Nat) : Nat → List Nat → List Value
  | _, [] => []
  | i, 0 :: t => .int (σ a i) :: zf o σ a (i + 1) t
  | i, (r + 1) :: t => .ref (zb o + r) :: zf o σ a (i + 1) t
def ze (o : jw_O) (σ : zS) (a : Nat) : zR → va_E
  | (20, n, _) => .inl (o.2.2.1 0, n, .inl (σ a))
  | (21, n, _) => .inl (o.2.2.1 1, n, .inl (σ a))
  | (22, n, l) => .inl (o.2.2.1 2, n, .inr (.inr (.inr (.inr (fun i => (l[i]?).map (fun r => zb o + r))))))
  | (23, n, l) => .inl (o.2.2.1 3, n, .inr (.inr (.inr (.inr (fun i => (l[i]?).map (fun r => zb o + r))))))
  | (k, _, l) => .inr (k, zf o σ a 0 l)
/-- what is known of the heap -/
def mm (o : jw_O) (σ : zS) : jw_Mem := fun a => if a < zb o then none else (zt[a - zb o]?).map (ze o σ a)
theorem mm_at (o : jw_O) (σ : zS) {j : Nat} {r : zR} (h : zt[j]? = some r) : mm o σ (zb o + j) = some (ze o σ (zb o + j) r) := by
  unfold mm
  rw [if_neg (by omega), Nat.add_sub_cancel_left, h]
  rfl
/-- one int changed -/
def su (σ : zS) (a i : Nat) (v : Int32) : zS := fun b j => if b = a then (if j = i then v else σ b j) else σ b j
def si (σ : zS) (a i : Nat) (e : Int) : zS := su σ a i (iI e)
theorem su_ne {σ : zS} {a i b : Nat} {v : Int32} (h : b ≠ a) : su σ a i v b = σ b := funext fun j => if_neg h
theorem si_ne {σ : zS} {a i b : Nat} {e : Int} (h : b ≠ a) : si σ a i e b = σ b := su_ne h
theorem iv_si {σ : zS} {a i b j : Nat} {e : Int} (he : -2147483648 ≤ e ∧ e < 2147483648) : iv (si σ a i e) b j = if b = a ∧ j = i then e else iv σ b j := by
  unfold iv si su
  by_cases h : b = a
  · by_cases h2 : j = i
    · rw [if_pos h, if_pos h2, if_pos ⟨h, h2⟩, iI_to he]
    · rw [if_pos h, if_neg h2, if_neg (fun q => h2 q.2)]
  · rw [if_neg h, if_neg (fun q => h q.1)]
theorem iv_cell {σ σ' : zS} {a : Nat} (h : σ' a = σ a) (i : Nat) : iv σ' a i = iv σ a i := by unfold iv; rw [h]
theorem zf_congr (o : jw_O) {σ σ' : zS} {a : Nat} (h : σ' a = σ a) : ∀ (l : List Nat) (i : Nat), zf o σ' a i l = zf o σ a i l
  | [], _ => rfl
  | 0 :: t, i => by unfold zf; rw [h, zf_congr o h t]
  | (r + 1) :: t, i => by unfold zf; rw [zf_congr o h t]
theorem ze_congr (o : jw_O) {σ σ' : zS} {a : Nat} (h : σ' a = σ a) (e : zR) : ze o σ' a e = ze o σ a e := by
  unfold ze
  split
  · rw [h]
  · rw [h]
  · rfl
  · rfl
  · rw [zf_congr o h]
theorem zf_set (o : jw_O) (σ : zS) (a : Nat) (v w : Int32) : ∀ (l : List Nat) (i kf : Nat), (zf o σ a i l)[kf]? = some (.int w) → zf o (su σ a (i + kf) v) a i l = (zf o σ a i l).set kf (.int v)
  | [], _, _, h => by simp [zf] at h
  | 0 :: t, i, 0, h => by
    have e : ∀ (t : List Nat) (m : Nat), i < m → zf o (su σ a i v) a m t = zf o σ a m t := by
      intro t
      induction t with
      | nil => intro m _; rfl
      | cons x t ih =>
        intro m hm
        cases x with
        | zero => unfold zf; rw [ih (m + 1) (by omega)]; simp [su, show m ≠ i by omega]
        | succ r => unfold zf; rw [ih (m + 1) (by omega)]
    simp only [zf, List.set_cons_zero, Nat.add_zero]
    rw [e t (i + 1) (by omega)]
    simp [su]
  | 0 :: t, i, kf + 1, h => by
    simp only [zf, List.getElem?_cons_succ] at h
    have e := zf_set o σ a v w t (i + 1) kf h
    rw [show i + 1 + kf = i + (kf + 1) by omega] at e
    simp only [zf, List.set_cons_succ]
    rw [e]
    simp [su, show i ≠ i + (kf + 1) by omega]
  | (r + 1) :: t, i, 0, h => by simp [zf] at h
  | (r + 1) :: t, i, kf + 1, h => by
    simp only [zf, List.getElem?_cons_succ] at h
    have e := zf_set o σ a v w t (i + 1) kf h
    rw [show i + 1 + kf = i + (kf + 1) by omega] at e
    simp only [zf, List.set_cons_succ]
    rw [e]
theorem mm_ne (o : jw_O) {σ : zS} {a i q : Nat} {v : Int32} (h : q ≠ a) : mm o (su σ a i v) q = mm o σ q := by
  unfold mm
  split
  · rfl
  · congr 1
    funext e
    exact ze_congr o (su_ne h) e
theorem mm_obj (o : jw_O) {σ : zS} {a ci kf : Nat} {fs : List Value} {v w : Int32} (ha : mm o σ a = some (.inr (ci, fs))) (hf : fs[kf]? = some (.int w)) : mm o (su σ a kf v) a = some (.inr (ci, fs.set kf (.int v))) := by
  unfold mm at ha ⊢
  split at ha
  · cases ha
  · rename_i hlt
    rw [if_neg hlt]
    cases hz : zt[a - zb o]? with
    | none => rw [hz] at ha; cases ha
    | some e =>
      rw [hz] at ha
      have ha : ze o σ a e = .inr (ci, fs) := Option.some.inj ha
      show some (ze o (su σ a kf v) a e) = _
      congr 1
      unfold ze at ha ⊢
      split at ha
      · cases ha
      · cases ha
      · cases ha
      · cases ha
      · cases ha
        have e := zf_set o σ a v w _ 0 kf hf
        rw [Nat.zero_add] at e
        simp only [e]
theorem mm_arr (o : jw_O) {σ : zS} {a n i : Nat} {cA : ClassId} {v : Int32} (ha : mm o σ a = some (.inl (cA, n, .inl (σ a)))) : mm o (su σ a i v) a = some (.inl (cA, n, .inl (upd (σ a) i v))) := by
  have hu : su σ a i v a = upd (σ a) i v := by
    funext j
    unfold su upd
    rw [if_pos rfl]
  unfold mm at ha ⊢
  split at ha
  · cases ha
  · rename_i hlt
    rw [if_neg hlt]
    cases hz : zt[a - zb o]? with
    | none => rw [hz] at ha; cases ha
    | some e =>
      rw [hz] at ha
      have ha : ze o σ a e = .inl (cA, n, .inl (σ a)) := Option.some.inj ha
      show some (ze o (su σ a i v) a e) = _
      congr 1
      unfold ze at ha ⊢
      split at ha
      · cases ha; rw [hu]
      · cases ha; rw [hu]
      · cases ha
      · cases ha
      · cases ha
/-! rules over the memory of numbers -/
section
variable {mi : jw_M} {o : jw_O} {k : jw_K} {kc ks pc pc' : Nat} {lc lc' : List (Nat × Value)} {st rest : List Value} {μ : jw_Mem} {σ : zS} {hs : Nat}
theorem zx_iconst {n : Int} (hd : decode mi.2.1 pc = .ok (.iconst n, 1)) (hp : pc + 1 = pc') (kk : jw_X mi o k kc ks pc' lc (.int (iI n) :: st) μ hs) : jw_X mi o k kc ks pc lc st μ hs := jw_iconst hd rfl hp kk
theorem zx_bipush {n : Int} (hd : decode mi.2.1 pc = .ok (.bipush n, 2)) (hv : (Int8.ofInt n).toInt32 = iI n) (hp : pc + 2 = pc') (kk : jw_X mi o k kc ks pc' lc (.int (iI n) :: st) μ hs) : jw_X mi o k kc ks pc lc st μ hs := jw_bipush hd hv hp kk
theorem zx_sipush {n : Int} (hd : decode mi.2.1 pc = .ok (.sipush n, 3)) (hv : (Int16.ofInt n).toInt32 = iI n) (hp : pc + 3 = pc') (kk : jw_X mi o k kc ks pc' lc (.int (iI n) :: st) μ hs) : jw_X mi o k kc ks pc lc st μ hs := jw_sipush hd hv hp kk
theorem zx_iadd {x y : Int} (hd : decode mi.2.1 pc = .ok (.iadd, 1)) (hp : pc + 1 = pc') (kk : jw_X mi o k kc ks pc' lc (.int (iI (x + y)) :: rest) μ hs) : jw_X mi o k kc ks pc lc (.int (iI y) :: .int (iI x) :: rest) μ hs := jw_iadd hd (iI_add x y) hp kk
theorem zx_isub {x y : Int} (hd : decode mi.2.1 pc = .ok (.isub, 1)) (hp : pc + 1 = pc') (kk : jw_X mi o k kc ks pc' lc (.int (iI (x - y)) :: rest) μ hs) : jw_X mi o k kc ks pc lc (.int (iI y) :: .int (iI x) :: rest) μ hs := jw_isub hd (iI_sub x y) hp kk
theorem zx_imul {x y : Int} (hd : decode mi.2.1 pc = .ok (.imul, 1)) (hp : pc + 1 = pc') (kk : jw_X mi o k kc ks pc' lc (.int (iI (x * y)) :: rest) μ hs) : jw_X mi o k kc ks pc lc (.int (iI y) :: .int (iI x) :: rest) μ hs := jw_imul hd (iI_mul x y) hp kk
theorem zx_idiv {x y : Int} (hd : decode mi.2.1 pc = .ok (.idiv, 1)) (hx : 0 ≤ x ∧ x < 2147483648) (hy : 0 < y ∧ y < 2147483648) (hp : pc + 1 = pc') (kk : jw_X mi o k kc ks pc' lc (.int (iI (x / y)) :: rest) μ hs) : jw_X mi o k kc ks pc lc (.int (iI y) :: .int (iI x) :: rest) μ hs := jw_idiv hd (fun h => by rw [iI_0] at h; have := (iI_inj (by omega) (by omega)).mp h; omega) (iI_div hx hy) hp kk
theorem zx_irem {x y : Int} (hd : decode mi.2.1 pc = .ok (.irem, 1)) (hx : 0 ≤ x ∧ x < 2147483648) (hy : 0 < y ∧ y < 2147483648) (hp : pc + 1 = pc') (kk : jw_X mi o k kc ks pc' lc (.int (iI (x % y)) :: rest) μ hs) : jw_X mi o k kc ks pc lc (.int (iI y) :: .int (iI x) :: rest) μ hs := jw_irem hd (fun h => by rw [iI_0] at h; have := (iI_inj (by omega) (by omega)).mp h; omega) (iI_rem hx hy) hp kk
theorem zx_iand {m n : Nat} (hd : decode mi.2.1 pc = .ok (.iand, 1)) (hp : pc + 1 = pc') (kk : jw_X mi o k kc ks pc' lc (.int (iI ((m &&& n : Nat) : Int)) :: rest) μ hs) : jw_X mi o k kc ks pc lc (.int (iI (n : Int)) :: .int (iI (m : Int)) :: rest) μ hs := jw_iand hd (iI_and m n) hp kk
theorem zx_ior {m n : Nat} (hd : decode mi.2.1 pc = .ok (.ior, 1)) (hp : pc + 1 = pc') (kk : jw_X mi o k kc ks pc' lc (.int (iI ((m ||| n : Nat) : Int)) :: rest) μ hs) : jw_X mi o k kc ks pc lc (.int (iI (n : Int)) :: .int (iI (m : Int)) :: rest) μ hs := jw_ior hd (iI_or m n) hp kk
theorem zx_shl1 {i : Nat} (hd : decode mi.2.1 pc = .ok (.ishl, 1)) (hi : i < 31) (hp : pc + 1 = pc') (kk : jw_X mi o k kc ks pc' lc (.int (iI ((2 ^ i : Nat) : Int)) :: rest) μ hs) : jw_X mi o k kc ks pc lc (.int (iI (i : Int)) :: .int (iI 1) :: rest) μ hs := jw_ishl hd (by rw [iI_nat, iI_nat]; exact iI_shl i hi) hp kk
theorem zx_iinc {i : Nat} {n x : Int} (hd : decode mi.2.1 pc = .ok (.iinc i n, 3)) (hv : jw_lk lc i = some (.int (iI x))) (hn : i < mi.2.2.1) (hl : jw_sb (jw_s1 lc i (.int (iI (x + n)))) lc') (hp : pc + 3 = pc') (kk : jw_X mi o k kc ks pc' lc' st μ hs) : jw_X mi o k kc ks pc lc st μ hs := jw_iinc hd hv (iI_add x n) hn hl hp kk
theorem zx_if_eq {x : Int} {off : Int} {tgt : Nat} (hx : -2147483648 ≤ x ∧ x < 2147483648) (hd : decode mi.2.1 pc = .ok (.ifCond .eq off, 3)) (ht : (pc : Int) + off = (tgt : Int)) (hp : pc + 3 = pc') (kt : x = 0 → jw_X mi o k kc ks tgt lc rest μ hs) (kf : ¬ x = 0 → jw_X mi o k kc ks pc' lc rest μ hs) : jw_X mi o k kc ks pc lc (.int (iI x) :: rest) μ hs :=
  jw_if_eq hd ht hp (fun q => by rw [iI_0] at q; exact kt ((iI_inj hx (by omega)).mp q)) (fun q => by rw [iI_0] at q; exact kf (fun z => q ((iI_inj hx (by omega)).mpr z)))
theorem zx_icmp_eq {x y : Int} {off : Int} {tgt : Nat} (hx : -2147483648 ≤ x ∧ x < 2147483648) (hy : -2147483648 ≤ y ∧ y < 2147483648) (hd : decode mi.2.1 pc = .ok (.if_icmp .eq off, 3)) (ht : (pc : Int) + off = (tgt : Int)) (hp : pc + 3 = pc') (kt : x = y → jw_X mi o k kc ks tgt lc rest μ hs) (kf : ¬ x = y → jw_X mi o k kc ks pc' lc rest μ hs) : jw_X mi o k kc ks pc lc (.int (iI y) :: .int (iI x) :: rest) μ hs :=
  jw_icmp_eq hd ht hp (fun q => by exact kt ((iI_inj hx hy).mp q)) (fun q => by exact kf (fun z => q ((iI_inj hx hy).mpr z)))
theorem zx_if_ne {x : Int} {off : Int} {tgt : Nat} (hx : -2147483648 ≤ x ∧ x < 2147483648) (hd : decode mi.2.1 pc = .ok (.ifCond .ne off, 3)) (ht : (pc : Int) + off = (tgt : Int)) (hp : pc + 3 = pc') (kt : ¬ x = 0 → jw_X mi o k kc ks tgt lc rest μ hs) (kf : x = 0 → jw_X mi o k kc ks pc' lc rest μ hs) : jw_X mi o k kc ks pc lc (.int (iI x) :: rest) μ hs :=
  jw_if_ne hd ht hp (fun q => by rw [iI_0] at q; exact kt (fun z => q ((iI_inj hx (by omega)).mpr z))) (fun q => by rw [iI_0] at q; exact kf ((iI_inj hx (by omega)).mp q))
theorem zx_icmp_ne {x y : Int} {off : Int} {tgt : Nat} (hx : -2147483648 ≤ x ∧ x < 2147483648) (hy : -2147483648 ≤ y ∧ y < 2147483648) (hd : decode mi.2.1 pc = .ok (.if_icmp .ne off, 3)) (ht : (pc : Int) + off = (tgt : Int)) (hp : pc + 3 = pc') (kt : ¬ x = y → jw_X mi o k kc ks tgt lc rest μ hs) (kf : x = y → jw_X mi o k kc ks pc' lc rest μ hs) : jw_X mi o k kc ks pc lc (.int (iI y) :: .int (iI x) :: rest) μ hs :=
  jw_icmp_ne hd ht hp (fun q => by exact kt (fun z => q ((iI_inj hx hy).mpr z))) (fun q => by exact kf ((iI_inj hx hy).mp q))
theorem zx_if_lt {x : Int} {off : Int} {tgt : Nat} (hx : -2147483648 ≤ x ∧ x < 2147483648) (hd : decode mi.2.1 pc = .ok (.ifCond .lt off, 3)) (ht : (pc : Int) + off = (tgt : Int)) (hp : pc + 3 = pc') (kt : x < 0 → jw_X mi o k kc ks tgt lc rest μ hs) (kf : 0 ≤ x → jw_X mi o k kc ks pc' lc rest μ hs) : jw_X mi o k kc ks pc lc (.int (iI x) :: rest) μ hs :=
  jw_if_lt hd ht hp (fun q => by rw [iI_0] at q; exact kt ((iI_lt hx (by omega)).mp q)) (fun q => by rw [iI_0] at q; exact kf (Int.not_lt.mp (fun z => q ((iI_lt hx (by omega)).mpr z))))
theorem zx_icmp_lt {x y : Int} {off : Int} {tgt : Nat} (hx : -2147483648 ≤ x ∧ x < 2147483648) (hy : -2147483648 ≤ y ∧ y < 2147483648) (hd : decode mi.2.1 pc = .ok (.if_icmp .lt off, 3)) (ht : (pc : Int) + off = (tgt : Int)) (hp : pc + 3 = pc') (kt : x < y → jw_X mi o k kc ks tgt lc rest μ hs) (kf : y ≤ x → jw_X mi o k kc ks pc' lc rest μ hs) : jw_X mi o k kc ks pc lc (.int (iI y) :: .int (iI x) :: rest) μ hs :=
  jw_icmp_lt hd ht hp (fun q => by exact kt ((iI_lt hx hy).mp q)) (fun q => by exact kf (Int.not_lt.mp (fun z => q ((iI_lt hx hy).mpr z))))
theorem zx_if_ge {x : Int} {off : Int} {tgt : Nat} (hx : -2147483648 ≤ x ∧ x < 2147483648) (hd : decode mi.2.1 pc = .ok (.ifCond .ge off, 3)) (ht : (pc : Int) + off = (tgt : Int)) (hp : pc + 3 = pc') (kt : 0 ≤ x → jw_X mi o k kc ks tgt lc rest μ hs) (kf : x < 0 → jw_X mi o k kc ks pc' lc rest μ hs) : jw_X mi o k kc ks pc lc (.int (iI x) :: rest) μ hs :=
  jw_if_ge hd ht hp (fun q => by rw [iI_0] at q; exact kt ((iI_le (by omega) hx).mp q)) (fun q => by rw [iI_0] at q; exact kf (Int.not_le.mp (fun z => q ((iI_le (by omega) hx).mpr z))))
theorem zx_icmp_ge {x y : Int} {off : Int} {tgt : Nat} (hx : -2147483648 ≤ x ∧ x < 2147483648) (hy : -2147483648 ≤ y ∧ y < 2147483648) (hd : decode mi.2.1 pc = .ok (.if_icmp .ge off, 3)) (ht : (pc : Int) + off = (tgt : Int)) (hp : pc + 3 = pc') (kt : y ≤ x → jw_X mi o k kc ks tgt lc rest μ hs) (kf : x < y → jw_X mi o k kc ks pc' lc rest μ hs) : jw_X mi o k kc ks pc lc (.int (iI y) :: .int (iI x) :: rest) μ hs :=
  jw_icmp_ge hd ht hp (fun q => by exact kt ((iI_le hy hx).mp q)) (fun q => by exact kf (Int.not_le.mp (fun z => q ((iI_le hy hx).mpr z))))
theorem zx_if_gt {x : Int} {off : Int} {tgt : Nat} (hx : -2147483648 ≤ x ∧ x < 2147483648) (hd : decode mi.2.1 pc = .ok (.ifCond .gt off, 3)) (ht : (pc : Int) + off = (tgt : Int)) (hp : pc + 3 = pc') (kt : 0 < x → jw_X mi o k kc ks tgt lc rest μ hs) (kf : x ≤ 0 → jw_X mi o k kc ks pc' lc rest μ hs) : jw_X mi o k kc ks pc lc (.int (iI x) :: rest) μ hs :=
  jw_if_gt hd ht hp (fun q => by rw [iI_0] at q; exact kt ((iI_lt (by omega) hx).mp q)) (fun q => by rw [iI_0] at q; exact kf (Int.not_lt.mp (fun z => q ((iI_lt (by omega) hx).mpr z))))
theorem zx_icmp_gt {x y : Int} {off : Int} {tgt : Nat} (hx : -2147483648 ≤ x ∧ x < 2147483648) (hy : -2147483648 ≤ y ∧ y < 2147483648) (hd : decode mi.2.1 pc = .ok (.if_icmp .gt off, 3)) (ht : (pc : Int) + off = (tgt : Int)) (hp : pc + 3 = pc') (kt : y < x → jw_X mi o k kc ks tgt lc rest μ hs) (kf : x ≤ y → jw_X mi o k kc ks pc' lc rest μ hs) : jw_X mi o k kc ks pc lc (.int (iI y) :: .int (iI x) :: rest) μ hs :=
  jw_icmp_gt hd ht hp (fun q => by exact kt ((iI_lt hy hx).mp q)) (fun q => by exact kf (Int.not_lt.mp (fun z => q ((iI_lt hy hx).mpr z))))
theorem zx_if_le {x : Int} {off : Int} {tgt : Nat} (hx : -2147483648 ≤ x ∧ x < 2147483648) (hd : decode mi.2.1 pc = .ok (.ifCond .le off, 3)) (ht : (pc : Int) + off = (tgt : Int)) (hp : pc + 3 = pc') (kt : x ≤ 0 → jw_X mi o k kc ks tgt lc rest μ hs) (kf : 0 < x → jw_X mi o k kc ks pc' lc rest μ hs) : jw_X mi o k kc ks pc lc (.int (iI x) :: rest) μ hs :=
  jw_if_le hd ht hp (fun q => by rw [iI_0] at q; exact kt ((iI_le hx (by omega)).mp q)) (fun q => by rw [iI_0] at q; exact kf (Int.not_le.mp (fun z => q ((iI_le hx (by omega)).mpr z))))
theorem zx_icmp_le {x y : Int} {off : Int} {tgt : Nat} (hx : -2147483648 ≤ x ∧ x < 2147483648) (hy : -2147483648 ≤ y ∧ y < 2147483648) (hd : decode mi.2.1 pc = .ok (.if_icmp .le off, 3)) (ht : (pc : Int) + off = (tgt : Int)) (hp : pc + 3 = pc') (kt : x ≤ y → jw_X mi o k kc ks tgt lc rest μ hs) (kf : y < x → jw_X mi o k kc ks pc' lc rest μ hs) : jw_X mi o k kc ks pc lc (.int (iI y) :: .int (iI x) :: rest) μ hs :=
  jw_icmp_le hd ht hp (fun q => by exact kt ((iI_le hx hy).mp q)) (fun q => by exact kf (Int.not_le.mp (fun z => q ((iI_le hx hy).mpr z))))
theorem zx_getI {a ci kf N idx : Nat} {fs : List Value} {C : String} {T : u_T} (hc : jw_cl[ci]? = some (C, T, N)) (hk : kf < N) (hw : Cond.fieldLink mi.1.cls idx (T kf).1 (T kf).2.1 (T kf).2.2.1 ∈ jw_T) (hd : decode mi.2.1 pc = .ok (.getfield idx, 3)) (ha : mm o σ a = some (.inr (ci, fs))) (hv : fs[kf]? = some (.int (σ a kf))) (hp : pc + 3 = pc') (kk : jw_X mi o k kc ks pc' lc (.int (iI (iv σ a kf)) :: rest) (mm o σ) hs) : jw_X mi o k kc ks pc lc (.ref a :: rest) (mm o σ) hs := jw_get hc hk hw hd ha hv hp (by rw [iI_iv σ a kf] at kk; exact kk)
theorem zx_putI {a ci kf N idx : Nat} {fs : List Value} {C : String} {T : u_T} {v : Int} {w : Int32} (hc : jw_cl[ci]? = some (C, T, N)) (hk : kf < N) (hw : Cond.fieldLink mi.1.cls idx (T kf).1 (T kf).2.1 (T kf).2.2.1 ∈ jw_T) (hd : decode mi.2.1 pc = .ok (.putfield idx, 3)) (hfin : (T kf).2.2.2 = false) (hty : parseFieldDescriptor (T kf).2.2.1 = some .int) (ha : mm o σ a = some (.inr (ci, fs))) (hf : fs[kf]? = some (.int w)) (hp : pc + 3 = pc') (kk : jw_X mi o k kc ks pc' lc rest (mm o (si σ a kf v)) hs) : jw_X mi o k kc ks pc lc (.int (iI v) :: .ref a :: rest) (mm o σ) hs := by
  refine jw_put hc hk hw hd hfin hty ha rfl rfl rfl (List.getElem?_eq_some_iff.mp hf).1 hp (fun μ' h1 h2 => ?_)
  have e : μ' = mm o (si σ a kf v) := by
    funext q
    by_cases hq : q = a
    · rw [hq, h1]; exact (mm_obj o ha hf).symm
    · rw [h2 q hq]; exact (mm_ne o hq).symm
  rw [e]; exact kk
theorem zx_putZ {a ci kf N idx : Nat} {fs : List Value} {C : String} {T : u_T} {v : Int} {w : Int32} (hv : v = 0 ∨ v = 1) (hc : jw_cl[ci]? = some (C, T, N)) (hk : kf < N) (hw : Cond.fieldLink mi.1.cls idx (T kf).1 (T kf).2.1 (T kf).2.2.1 ∈ jw_T) (hd : decode mi.2.1 pc = .ok (.putfield idx, 3)) (hfin : (T kf).2.2.2 = false) (hty : parseFieldDescriptor (T kf).2.2.1 = some .boolean) (ha : mm o σ a = some (.inr (ci, fs))) (hf : fs[kf]? = some (.int w)) (hp : pc + 3 = pc') (kk : jw_X mi o k kc ks pc' lc rest (mm o (si σ a kf v)) hs) : jw_X mi o k kc ks pc lc (.int (iI v) :: .ref a :: rest) (mm o σ) hs := by
  refine jw_put hc hk hw hd hfin hty ha (by rcases hv with rfl | rfl <;> decide) (by rcases hv with rfl | rfl <;> decide) rfl (List.getElem?_eq_some_iff.mp hf).1 hp (fun μ' h1 h2 => ?_)
  have e : μ' = mm o (si σ a kf v) := by
    funext q
    by_cases hq : q = a
    · rw [hq, h1]; exact (mm_obj o ha hf).symm
    · rw [h2 q hq]; exact (mm_ne o hq).symm
  rw [e]; exact kk
theorem zx_iald {a n j : Nat} {x : Int} (hd : decode mi.2.1 pc = .ok (.iaload, 1)) (ha : mm o σ a = some (.inl (o.2.2.1 0, n, .inl (σ a)))) (hx : x = (j : Int)) (hj : j < n) (hn : n < 1000) (hp : pc + 1 = pc') (kk : jw_X mi o k kc ks pc' lc (.int (iI (iv σ a j)) :: rest) (mm o σ) hs) : jw_X mi o k kc ks pc lc (.int (iI x) :: .ref a :: rest) (mm o σ) hs := by
  subst hx
  rw [iI_nat]
  exact jw_iald (i := 0) hd ha rfl (vp_in_nI hj (by omega)) (by rw [nI_clamp (by omega)]; exact (iI_iv σ a j).symm) hp kk
theorem zx_zald {a n j : Nat} {x : Int} (hd : decode mi.2.1 pc = .ok (.baload, 1)) (ha : mm o σ a = some (.inl (o.2.2.1 1, n, .inl (σ a)))) (hx : x = (j : Int)) (hj : j < n) (hn : n < 1000) (hp : pc + 1 = pc') (kk : jw_X mi o k kc ks pc' lc (.int (iI (iv σ a j)) :: rest) (mm o σ) hs) : jw_X mi o k kc ks pc lc (.int (iI x) :: .ref a :: rest) (mm o σ) hs := by
  subst hx
  rw [iI_nat]
  exact jw_zald (i := 1) hd ha rfl (vp_in_nI hj (by omega)) (by rw [nI_clamp (by omega)]; exact (iI_iv σ a j).symm) hp kk
theorem zx_iast {a n j : Nat} {x v : Int} (hd : decode mi.2.1 pc = .ok (.iastore, 1)) (ha : mm o σ a = some (.inl (o.2.2.1 0, n, .inl (σ a)))) (hx : x = (j : Int)) (hj : j < n) (hn : n < 1000) (hp : pc + 1 = pc') (kk : jw_X mi o k kc ks pc' lc rest (mm o (si σ a j v)) hs) : jw_X mi o k kc ks pc lc (.int (iI v) :: .int (iI x) :: .ref a :: rest) (mm o σ) hs := by
  subst hx
  rw [iI_nat]
  refine jw_iast (i := 0) hd ha rfl (vp_in_nI hj (by omega)) hp (fun μ' h1 h2 => ?_)
  rw [nI_clamp (by omega)] at h1
  have e : μ' = mm o (si σ a j v) := by
    funext q
    by_cases hq : q = a
    · rw [hq, h1]; exact (mm_arr o ha).symm
    · rw [h2 q hq]; exact (mm_ne o hq).symm
  rw [e]; exact kk
theorem zx_zast {a n j : Nat} {x v : Int} (hv : v = 0 ∨ v = 1) (hd : decode mi.2.1 pc = .ok (.bastore, 1)) (ha : mm o σ a = some (.inl (o.2.2.1 1, n, .inl (σ a)))) (hx : x = (j : Int)) (hj : j < n) (hn : n < 1000) (hp : pc + 1 = pc') (kk : jw_X mi o k kc ks pc' lc rest (mm o (si σ a j v)) hs) : jw_X mi o k kc ks pc lc (.int (iI v) :: .int (iI x) :: .ref a :: rest) (mm o σ) hs := by
  subst hx
  rw [iI_nat]
  refine jw_zast (i := 1) hd ha rfl (vp_in_nI hj (by omega)) hp (fun μ' h1 h2 => ?_)
  rw [nI_clamp (by omega), show vp_nar .boolean (iI v) = iI v by rcases hv with rfl | rfl <;> decide] at h1
  have e : μ' = mm o (si σ a j v) := by
    funext q
    by_cases hq : q = a
    · rw [hq, h1]; exact (mm_arr o ha).symm
    · rw [h2 q hq]; exact (mm_ne o hq).symm
  rw [e]; exact kk
theorem zx_aald {a n i j q : Nat} {x : Int} {C : String} {f : Nat → Option Nat} (hd : decode mi.2.1 pc = .ok (.aaload, 1)) (ha : μ a = some (.inl (o.2.2.1 i, n, .inr (.inr (.inr (.inr f)))))) (ht : (jw_tys o.2.2.1)[i]? = some (o.2.2.1 i, .object C)) (hx : x = (j : Int)) (hj : j < n) (hn : n < 1000) (hf : f j = some q) (hp : pc + 1 = pc') (kk : jw_X mi o k kc ks pc' lc (.ref q :: rest) μ hs) : jw_X mi o k kc ks pc lc (.int (iI x) :: .ref a :: rest) μ hs := by
  subst hx
  rw [iI_nat]
  exact jw_aald hd ha ht (vp_in_nI hj (by omega)) (by rw [nI_clamp (by omega), hf]; rfl) hp kk
theorem zx_alen {a n i : Nat} {cA : ClassId} {y : vp_A} {ty : FieldType} (hd : decode mi.2.1 pc = .ok (.arraylength, 1)) (ha : μ a = some (.inl (cA, y))) (hy : y.1 = n) (ht : (jw_tys o.2.2.1)[i]? = some (cA, ty)) (hp : pc + 1 = pc') (kk : jw_X mi o k kc ks pc' lc (.int (iI (n : Int)) :: rest) μ hs) : jw_X mi o k kc ks pc lc (.ref a :: rest) μ hs := jw_alen hd ha ht (by rw [hy, iI_nat]; rfl) hp kk
theorem jw_mmin {d mc ms idx : Nat} {x y v : Int32} (hR : jw_Rm k d mc ms) (hw : Cond.methodLink mi.1.cls idx Lib.Math.min.name ∈ jw_T) (hd : decode mi.2.1 pc = .ok (.invokestatic idx, 3)) (hrs : (rest.map fun v => v.category).sum ≤ 8) (hdd : 1 ≤ d) (h1 : kc ≤ mc) (h2 : ks ≤ ms) (hv : (if y < x then y else x) = v) (hp : pc + 3 = pc') (kk : jw_X mi o k kc ks pc' lc (.int v :: rest) μ hs) : jw_X mi o k kc ks pc lc (.int y :: .int x :: rest) μ hs := by
  subst hp; subst hv
  intro C0 H locs ls e1 e2 e3 e4
  obtain ⟨r1, r2, r3, r4⟩ := hR
  exact va_mmin C0.1 C0.2.1 (C0.2.2.2.1.trans e4.1.symm) C0.own (C0.ts _ hw) (C0.ts _ jq_418) (C0.ts _ jq_37) (C0.ts (Cond.code Lib.Math.min.name Lib.Math.min.code 2 (some .int)) (jw_mem 419 (by decide +kernel) (by decide +kernel))) (Nat.le_trans hdd r1) (by omega) (Nat.le_trans h1 r3) (Nat.le_trans h2 r4) hd (kk C0 H locs ls e1 e2 e3 e4)
theorem jw_mmax {d mc ms idx : Nat} {x y v : Int32} (hR : jw_Rm k d mc ms) (hw : Cond.methodLink mi.1.cls idx Lib.Math.max.name ∈ jw_T) (hd : decode mi.2.1 pc = .ok (.invokestatic idx, 3)) (hrs : (rest.map fun v => v.category).sum ≤ 8) (hdd : 1 ≤ d) (h1 : kc ≤ mc) (h2 : ks ≤ ms) (hv : (if x < y then y else x) = v) (hp : pc + 3 = pc') (kk : jw_X mi o k kc ks pc' lc (.int v :: rest) μ hs) : jw_X mi o k kc ks pc lc (.int y :: .int x :: rest) μ hs := by
  subst hp; subst hv
  intro C0 H locs ls e1 e2 e3 e4
  obtain ⟨r1, r2, r3, r4⟩ := hR
  exact va_mmax C0.1 C0.2.1 (C0.2.2.2.1.trans e4.1.symm) C0.own (C0.ts _ hw) (C0.ts _ jq_567) (C0.ts _ jq_37) (C0.ts (Cond.code Lib.Math.max.name Lib.Math.max.code 2 (some .int)) (jw_mem 568 (by decide +kernel) (by decide +kernel))) (Nat.le_trans hdd r1) (by omega) (Nat.le_trans h1 r3) (Nat.le_trans h2 r4) hd (kk C0 H locs ls e1 e2 e3 e4)
theorem zx_mmin {d mc ms idx : Nat} {x y : Int} (hx : -2147483648 ≤ x ∧ x < 2147483648) (hy : -2147483648 ≤ y ∧ y < 2147483648) (hR : jw_Rm k d mc ms) (hw : Cond.methodLink mi.1.cls idx Lib.Math.min.name ∈ jw_T) (hd : decode mi.2.1 pc = .ok (.invokestatic idx, 3)) (hrs : (rest.map fun v => v.category).sum ≤ 8) (hdd : 1 ≤ d) (h1 : kc ≤ mc) (h2 : ks ≤ ms) (hp : pc + 3 = pc') (kk : jw_X mi o k kc ks pc' lc (.int (iI (min x y)) :: rest) μ hs) : jw_X mi o k kc ks pc lc (.int (iI y) :: .int (iI x) :: rest) μ hs := jw_mmin hR hw hd hrs hdd h1 h2 (by
    by_cases h : y < x
    · rw [if_pos ((iI_lt hy hx).mpr h), show min x y = y by omega]
    · rw [if_neg (fun q => h ((iI_lt hy hx).mp q)), show min x y = x by omega]) hp kk
theorem zx_mmax {d mc ms idx : Nat} {x y : Int} (hx : -2147483648 ≤ x ∧ x < 2147483648) (hy : -2147483648 ≤ y ∧ y < 2147483648) (hR : jw_Rm k d mc ms) (hw : Cond.methodLink mi.1.cls idx Lib.Math.max.name ∈ jw_T) (hd : decode mi.2.1 pc = .ok (.invokestatic idx, 3)) (hrs : (rest.map fun v => v.category).sum ≤ 8) (hdd : 1 ≤ d) (h1 : kc ≤ mc) (h2 : ks ≤ ms) (hp : pc + 3 = pc') (kk : jw_X mi o k kc ks pc' lc (.int (iI (max x y)) :: rest) μ hs) : jw_X mi o k kc ks pc lc (.int (iI y) :: .int (iI x) :: rest) μ hs := jw_mmax hR hw hd hrs hdd h1 h2 (by
    by_cases h : x < y
    · rw [if_pos ((iI_lt hx hy).mpr h), show max x y = y by omega]
    · rw [if_neg (fun q => h ((iI_lt hx hy).mp q)), show max x y = x by omega]) hp kk
end
/-! contracts over the memory of numbers -/
def zP (o : jw_O) (hs : Nat) (Φ : Option Value → zS → Prop) : Option Value → jw_Mem → Nat → Prop := fun v μ' s' => s' = hs ∧ ∃ σ', μ' = mm o σ' ∧ Φ v σ'
def zSpec (mi : jw_M) (d : Nat) (o : jw_O) (As : List Value) (σ : zS) (Φ : Option Value → zS → Prop) : Prop := ∀ hs, jw_Spec mi d 0 0 o As (mm o σ) hs (zP o hs Φ)
def zRo (mi : jw_M) (d : Nat) (o : jw_O) (As : List Value) (σ : zS) (v : Option Value) : Prop := zSpec mi d o As σ (fun v' σ' => v' = v ∧ σ' = σ)
theorem z_spec {mi : jw_M} {o : jw_O} {d : Nat} {As : List Value} {σ : zS} {Φ : Option Value → zS → Prop} {lc : List (Nat × Value)} (hy : plainName mi.1.cls = true) (hn : (lg_sl As).length ≤ mi.2.2.1) (hlc : lv_args 0 As = lc) (body : ∀ (k : jw_K) (hs : Nat), jw_Rm k d 0 0 → jw_E o k 0 0 (zP o hs Φ) → jw_X mi o k 0 0 0 lc [] (mm o σ) hs) : zSpec mi d o As σ Φ := fun hs => jw_spec hy hn hlc (fun k => body k hs)
section
variable {mi : jw_M} {o : jw_O} {k : jw_K} {kc ks pc pc' : Nat} {lc lc' : List (Nat × Value)} {st rest : List Value} {σ : zS} {hs : Nat} {Φ : Option Value → zS → Prop}
theorem zx_zret {v : Int} (hv : v = 0 ∨ v = 1) (hE : jw_E o k 0 0 (zP o hs Φ)) (hd : decode mi.2.1 pc = .ok (.ireturn, 1)) (hr : mi.2.2.2 = some .boolean) (h : Φ (some (.int (iI v))) σ) : jw_X mi o k 0 0 pc lc [.int (iI v)] (mm o σ) hs := jw_zret hE hd hr (by rcases hv with rfl | rfl <;> decide) (Nat.le_refl _) (Nat.le_refl _) ⟨rfl, σ, rfl, h⟩
theorem zx_iret {v : Int} (hE : jw_E o k 0 0 (zP o hs Φ)) (hd : decode mi.2.1 pc = .ok (.ireturn, 1)) (hr : mi.2.2.2 = some .int) (h : Φ (some (.int (iI v))) σ) : jw_X mi o k 0 0 pc lc [.int (iI v)] (mm o σ) hs := jw_iret hE hd hr (Nat.le_refl _) (Nat.le_refl _) ⟨rfl, σ, rfl, h⟩
theorem zx_lret {v : Int64} (hE : jw_E o k 0 0 (zP o hs Φ)) (hd : decode mi.2.1 pc = .ok (.lreturn, 1)) (hr : mi.2.2.2 = some .long) (h : Φ (some (.long v)) σ) : jw_X mi o k 0 0 pc lc [.long v] (mm o σ) hs := jw_lret hE hd hr (Nat.le_refl _) (Nat.le_refl _) ⟨rfl, σ, rfl, h⟩
theorem zx_vret (hE : jw_E o k 0 0 (zP o hs Φ)) (hd : decode mi.2.1 pc = .ok (.return_, 1)) (hr : mi.2.2.2 = none) (h : Φ none σ) : jw_X mi o k 0 0 pc lc [] (mm o σ) hs := jw_vret hE hd hr (Nat.le_refl _) (Nat.le_refl _) ⟨rfl, σ, rfl, h⟩
theorem zx_aret {a : Nat} {n : String} (hE : jw_E o k 0 0 (zP o hs Φ)) (hd : decode mi.2.1 pc = .ok (.areturn, 1)) (hr : mi.2.2.2 = some (.object n)) (h : Φ (some (.ref a)) σ) : jw_X mi o k 0 0 pc lc [.ref a] (mm o σ) hs := jw_aret hE hd hr (Or.inl ⟨_, rfl⟩) (Or.inr ⟨_, rfl⟩) (Nat.le_refl _) (Nat.le_refl _) ⟨rfl, σ, rfl, h⟩
theorem zx_callV {mj : jw_M} {d d' a ci n idx : Nat} {As : List Value} {fs : List Value} {T : u_T} {N : Nat} (hR : jw_Rm k d 0 0) (hS : zSpec mj d' o (.ref a :: As) σ Φ) (hm : jw_mV mj n) (hw : Cond.methodLink mi.1.cls idx mj.1 ∈ jw_T) (hc : jw_cl[ci]? = some (mj.1.cls, T, N)) (hd : decode mi.2.1 pc = .ok (.invokevirtual idx, 3)) (ha : mm o σ a = some (.inr (ci, fs))) (hn : As.length = n) (hst : As.reverse ++ .ref a :: rest = st) (hrs : (rest.map fun v => v.category).sum ≤ 8) (hdd : d' + 1 ≤ d) (hml : mj.2.2.1 ≤ 21) (hp : pc + 3 = pc') (kk : ∀ (v : Option Value) (σ' : zS), Φ v σ' → jw_X mi o k 0 0 pc' lc (v.toList ++ rest) (mm o σ') hs) : jw_X mi o k 0 0 pc lc st (mm o σ) hs :=
  jw_callV hR (hS hs) hm hw hc hd ha hn hst hrs hdd hml (Nat.le_refl _) (Nat.le_refl _) hp (fun v μ' s' q _ => by obtain ⟨rfl, σ', rfl, q⟩ := q; exact kk v σ' q)
theorem zx_callV0 {mj : jw_M} {d d' a ci n idx : Nat} {As : List Value} {v : Option Value} {st' : List Value} {fs : List Value} {T : u_T} {N : Nat} (hR : jw_Rm k d 0 0) (hS : zRo mj d' o (.ref a :: As) σ v) (hm : jw_mV mj n) (hw : Cond.methodLink mi.1.cls idx mj.1 ∈ jw_T) (hc : jw_cl[ci]? = some (mj.1.cls, T, N)) (hd : decode mi.2.1 pc = .ok (.invokevirtual idx, 3)) (ha : mm o σ a = some (.inr (ci, fs))) (hn : As.length = n) (hst : As.reverse ++ .ref a :: rest = st) (hrs : (rest.map fun v => v.category).sum ≤ 8) (hdd : d' + 1 ≤ d) (hml : mj.2.2.1 ≤ 21) (hp : pc + 3 = pc') (hv : v.toList ++ rest = st') (kk : jw_X mi o k 0 0 pc' lc st' (mm o σ) hs) : jw_X mi o k 0 0 pc lc st (mm o σ) hs :=
  zx_callV hR hS hm hw hc hd ha hn hst hrs hdd hml hp (fun v' σ' q => by obtain ⟨rfl, rfl⟩ := q; rw [hv]; exact kk)
theorem zx_callS {mj : jw_M} {d d' n idx : Nat} {As : List Value} (hR : jw_Rm k d 0 0) (hS : zSpec mj d' o As σ Φ) (hm : jw_mS mj n) (hw : Cond.methodLink mi.1.cls idx mj.1 ∈ jw_T) (hd : decode mi.2.1 pc = .ok (.invokestatic idx, 3)) (hn : As.length = n) (hst : As.reverse ++ rest = st) (hrs : (rest.map fun v => v.category).sum ≤ 8) (hdd : d' + 1 ≤ d) (hml : mj.2.2.1 ≤ 21) (hp : pc + 3 = pc') (kk : ∀ (v : Option Value) (σ' : zS), Φ v σ' → jw_X mi o k 0 0 pc' lc (v.toList ++ rest) (mm o σ') hs) : jw_X mi o k 0 0 pc lc st (mm o σ) hs :=
  jw_callS hR (hS hs) hm hw hd hn hst hrs hdd hml (Nat.le_refl _) (Nat.le_refl _) hp (fun v μ' s' q _ => by obtain ⟨rfl, σ', rfl, q⟩ := q; exact kk v σ' q)
theorem zx_callS0 {mj : jw_M} {d d' n idx : Nat} {As : List Value} {v : Option Value} {st' : List Value} (hR : jw_Rm k d 0 0) (hS : zRo mj d' o As σ v) (hm : jw_mS mj n) (hw : Cond.methodLink mi.1.cls idx mj.1 ∈ jw_T) (hd : decode mi.2.1 pc = .ok (.invokestatic idx, 3)) (hn : As.length = n) (hst : As.reverse ++ rest = st) (hrs : (rest.map fun v => v.category).sum ≤ 8) (hdd : d' + 1 ≤ d) (hml : mj.2.2.1 ≤ 21) (hp : pc + 3 = pc') (hv : v.toList ++ rest = st') (kk : jw_X mi o k 0 0 pc' lc st' (mm o σ) hs) : jw_X mi o k 0 0 pc lc st (mm o σ) hs :=
  zx_callS hR hS hm hw hd hn hst hrs hdd hml hp (fun v' σ' q => by obtain ⟨rfl, rfl⟩ := q; rw [hv]; exact kk)
theorem zx_callI {mj : jw_M} {d d' a n idx : Nat} {As : List Value} (hR : jw_Rm k d 0 0) (hS : zSpec mj d' o (.ref a :: As) σ Φ) (hm : jw_mI mj n) (hw : Cond.methodLink mi.1.cls idx mj.1 ∈ jw_T) (hd : decode mi.2.1 pc = .ok (.invokespecial idx, 3)) (hn : As.length = n) (hst : As.reverse ++ .ref a :: rest = st) (hrs : (rest.map fun v => v.category).sum ≤ 8) (hdd : d' + 1 ≤ d) (hml : mj.2.2.1 ≤ 21) (hp : pc + 3 = pc') (kk : ∀ (v : Option Value) (σ' : zS), Φ v σ' → jw_X mi o k 0 0 pc' lc (v.toList ++ rest) (mm o σ') hs) : jw_X mi o k 0 0 pc lc st (mm o σ) hs :=
  jw_callI hR (hS hs) hm hw hd hn hst hrs hdd hml (Nat.le_refl _) (Nat.le_refl _) hp (fun v μ' s' q _ => by obtain ⟨rfl, σ', rfl, q⟩ := q; exact kk v σ' q)
theorem zx_callI0 {mj : jw_M} {d d' a n idx : Nat} {As : List Value} {v : Option Value} {st' : List Value} (hR : jw_Rm k d 0 0) (hS : zRo mj d' o (.ref a :: As) σ v) (hm : jw_mI mj n) (hw : Cond.methodLink mi.1.cls idx mj.1 ∈ jw_T) (hd : decode mi.2.1 pc = .ok (.invokespecial idx, 3)) (hn : As.length = n) (hst : As.reverse ++ .ref a :: rest = st) (hrs : (rest.map fun v => v.category).sum ≤ 8) (hdd : d' + 1 ≤ d) (hml : mj.2.2.1 ≤ 21) (hp : pc + 3 = pc') (hv : v.toList ++ rest = st') (kk : jw_X mi o k 0 0 pc' lc st' (mm o σ) hs) : jw_X mi o k 0 0 pc lc st (mm o σ) hs :=
  zx_callI hR hS hm hw hd hn hst hrs hdd hml hp (fun v' σ' q => by obtain ⟨rfl, rfl⟩ := q; rw [hv]; exact kk)
theorem zx_callIN {mj : jw_M} {d d' a n idx : Nat} {host : String} {As : List Value} (hR : jw_Rm k d 0 0) (hS : zSpec mj d' o (.ref a :: As) σ Φ) (hm : jw_mI mj n) (hw : (mi.1.cls, idx, mj.1, host) ∈ jw_nest) (hd : decode mi.2.1 pc = .ok (.invokespecial idx, 3)) (hn : As.length = n) (hst : As.reverse ++ .ref a :: rest = st) (hrs : (rest.map fun v => v.category).sum ≤ 8) (hdd : d' + 1 ≤ d) (hml : mj.2.2.1 ≤ 21) (hp : pc + 3 = pc') (kk : ∀ (v : Option Value) (σ' : zS), Φ v σ' → jw_X mi o k 0 0 pc' lc (v.toList ++ rest) (mm o σ') hs) : jw_X mi o k 0 0 pc lc st (mm o σ) hs :=
  jw_callIN hR (hS hs) hm hw hd hn hst hrs hdd hml (Nat.le_refl _) (Nat.le_refl _) hp (fun v μ' s' q _ => by obtain ⟨rfl, σ', rfl, q⟩ := q; exact kk v σ' q)
theorem zx_callIN0 {mj : jw_M} {d d' a n idx : Nat} {host : String} {As : List Value} {v : Option Value} {st' : List Value} (hR : jw_Rm k d 0 0) (hS : zRo mj d' o (.ref a :: As) σ v) (hm : jw_mI mj n) (hw : (mi.1.cls, idx, mj.1, host) ∈ jw_nest) (hd : decode mi.2.1 pc = .ok (.invokespecial idx, 3)) (hn : As.length = n) (hst : As.reverse ++ .ref a :: rest = st) (hrs : (rest.map fun v => v.category).sum ≤ 8) (hdd : d' + 1 ≤ d) (hml : mj.2.2.1 ≤ 21) (hp : pc + 3 = pc') (hv : v.toList ++ rest = st') (kk : jw_X mi o k 0 0 pc' lc st' (mm o σ) hs) : jw_X mi o k 0 0 pc lc st (mm o σ) hs :=
  zx_callIN hR hS hm hw hd hn hst hrs hdd hml hp (fun v' σ' q => by obtain ⟨rfl, rfl⟩ := q; rw [hv]; exact kk)
theorem zx_callSN {mj : jw_M} {d d' n idx : Nat} {host : String} {As : List Value} (hR : jw_Rm k d 0 0) (hS : zSpec mj d' o As σ Φ) (hm : jw_mS mj n) (hw : (mi.1.cls, idx, mj.1, host) ∈ jw_nest) (hd : decode mi.2.1 pc = .ok (.invokestatic idx, 3)) (hn : As.length = n) (hst : As.reverse ++ rest = st) (hrs : (rest.map fun v => v.category).sum ≤ 8) (hdd : d' + 1 ≤ d) (hml : mj.2.2.1 ≤ 21) (hp : pc + 3 = pc') (kk : ∀ (v : Option Value) (σ' : zS), Φ v σ' → jw_X mi o k 0 0 pc' lc (v.toList ++ rest) (mm o σ') hs) : jw_X mi o k 0 0 pc lc st (mm o σ) hs :=
  jw_callSN hR (hS hs) hm hw hd hn hst hrs hdd hml (Nat.le_refl _) (Nat.le_refl _) hp (fun v μ' s' q _ => by obtain ⟨rfl, σ', rfl, q⟩ := q; exact kk v σ' q)
theorem zx_callSN0 {mj : jw_M} {d d' n idx : Nat} {host : String} {As : List Value} {v : Option Value} {st' : List Value} (hR : jw_Rm k d 0 0) (hS : zRo mj d' o As σ v) (hm : jw_mS mj n) (hw : (mi.1.cls, idx, mj.1, host) ∈ jw_nest) (hd : decode mi.2.1 pc = .ok (.invokestatic idx, 3)) (hn : As.length = n) (hst : As.reverse ++ rest = st) (hrs : (rest.map fun v => v.category).sum ≤ 8) (hdd : d' + 1 ≤ d) (hml : mj.2.2.1 ≤ 21) (hp : pc + 3 = pc') (hv : v.toList ++ rest = st') (kk : jw_X mi o k 0 0 pc' lc st' (mm o σ) hs) : jw_X mi o k 0 0 pc lc st (mm o σ) hs :=
  zx_callSN hR hS hm hw hd hn hst hrs hdd hml hp (fun v' σ' q => by obtain ⟨rfl, rfl⟩ := q; rw [hv]; exact kk)
end
/-! the kinds of cells -/
def sC (j : Nat) : Prop := zt[j]? = some (0, 0, [j + 2, 0, 0]) ∧ zt[j + 1]? = some (20, 10, [])
def sM (j : Nat) : Prop := zt[j]? = some (2, 0, [j + 2, j + 3, j + 4]) ∧ zt[j + 1]? = some (20, 121, []) ∧ zt[j + 2]? = some (20, 10, []) ∧ zt[j + 3]? = some (20, 10, [])
def sT (j : Nat) : Prop := zt[j]? = some (1, 0, [j + 2, j + 3]) ∧ zt[j + 1]? = some (22, 12, (List.range 12).map (fun p => j + 4 + 2 * p)) ∧ ∀ p, p < 13 → zt[j + 2 + 2 * p]? = some (0, 0, [j + 2 + 2 * p + 2, 0, 0]) ∧ zt[j + 2 + 2 * p + 1]? = some (20, 10, [])
def sR (j : Nat) : Prop := zt[j]? = some (3, 0, [j + 2, j + 3, j + 4, 0]) ∧ zt[j + 1]? = some (20, 12, []) ∧ zt[j + 2]? = some (20, 12, []) ∧ zt[j + 3]? = some (2, 0, [j + 5, j + 6, j + 7]) ∧ zt[j + 4]? = some (20, 121, []) ∧ zt[j + 5]? = some (20, 10, []) ∧ zt[j + 6]? = some (20, 10, [])
def sK (j : Nat) : Prop := zt[j]? = some (5, 0, [j + 2, j + 3, 0]) ∧ zt[j + 1]? = some (20, 24, []) ∧ zt[j + 2]? = some (20, 24, [])
def isC (o : jw_O) (c : Nat) : Prop := ∃ j, c = zb o + j ∧ sC j
def isM (o : jw_O) (c : Nat) : Prop := ∃ j, c = zb o + j ∧ sM j
def isT (o : jw_O) (c : Nat) : Prop := ∃ j, c = zb o + j ∧ sT j
def isR (o : jw_O) (c : Nat) : Prop := ∃ j, c = zb o + j ∧ sR j
def isK (o : jw_O) (c : Nat) : Prop := ∃ j, c = zb o + j ∧ sK j
section
variable {o : jw_O} {c : Nat} (σ : zS)
theorem mc_Content (h : isC o c) : mm o σ c = some (.inr (0, [.ref (c + 1), .int (σ c 1), .int (σ c 2)])) := by
  obtain ⟨j, rfl, h1, -⟩ := h
  exact mm_at o σ h1
theorem ml_Content_lines (h : isC o c) : mm o σ (c + 1) = some (.inl (o.2.2.1 0, 10, .inl (σ (c + 1)))) := by
  obtain ⟨j, rfl, -, h1⟩ := h
  exact mm_at o σ (j := j + 1) h1
theorem mc_Match (h : isM o c) : mm o σ c = some (.inr (2, [.ref (c + 1), .ref (c + 2), .ref (c + 3)])) := by
  obtain ⟨j, rfl, h1, -⟩ := h
  exact mm_at o σ h1
theorem ml_Match_common (h : isM o c) : mm o σ (c + 1) = some (.inl (o.2.2.1 0, 121, .inl (σ (c + 1)))) := by
  obtain ⟨j, rfl, -, h1, -⟩ := h
  exact mm_at o σ (j := j + 1) h1
theorem ml_Match_partnersInB (h : isM o c) : mm o σ (c + 2) = some (.inl (o.2.2.1 0, 10, .inl (σ (c + 2)))) := by
  obtain ⟨j, rfl, -, -, h1, -⟩ := h
  exact mm_at o σ (j := j + 2) h1
theorem ml_Match_partnersInA (h : isM o c) : mm o σ (c + 3) = some (.inl (o.2.2.1 0, 10, .inl (σ (c + 3)))) := by
  obtain ⟨j, rfl, -, -, -, h1⟩ := h
  exact mm_at o σ (j := j + 3) h1
theorem mc_Tree (h : isT o c) : mm o σ c = some (.inr (1, [.ref (c + 1), .ref (c + 2)])) := by
  obtain ⟨j, rfl, h1, -⟩ := h
  exact mm_at o σ h1
def fA (t p : Nat) : Nat := t + 4 + 2 * p
theorem ml_Tree_files (h : isT o c) : ∃ f, mm o σ (c + 1) = some (.inl (o.2.2.1 2, 12, .inr (.inr (.inr (.inr f))))) ∧ ∀ p, p < 12 → f p = some (fA c p) := by
  obtain ⟨j, rfl, -, h1, -⟩ := h
  refine ⟨_, mm_at o σ (j := j + 1) h1, fun p hp => ?_⟩
  rw [List.getElem?_map, List.getElem?_range hp]
  show some (zb o + (j + 4 + 2 * p)) = some (zb o + j + 4 + 2 * p)
  congr 1
  omega
theorem isT.f (h : isT o c) {p : Nat} (hp : p < 12) : isC o (fA c p) := by
  obtain ⟨j, rfl, -, -, h1⟩ := h
  have h2 := h1 (p + 1) (by omega)
  rw [show j + 2 + 2 * (p + 1) = j + 4 + 2 * p by omega] at h2
  exact ⟨j + 4 + 2 * p, by unfold fA; omega, h2.1, h2.2⟩
theorem isT.out (h : isT o c) : isC o (c + 2) := by
  obtain ⟨j, rfl, -, -, h1⟩ := h
  have h2 := h1 0 (by omega)
  exact ⟨j + 2, by omega, h2.1, h2.2⟩
theorem mc_Renames (h : isR o c) : mm o σ c = some (.inr (3, [.ref (c + 1), .ref (c + 2), .ref (c + 3), .int (σ c 3)])) := by
  obtain ⟨j, rfl, h1, -⟩ := h
  exact mm_at o σ h1
theorem ml_Renames_fates (h : isR o c) : mm o σ (c + 1) = some (.inl (o.2.2.1 0, 12, .inl (σ (c + 1)))) := by
  obtain ⟨j, rfl, -, h1, -⟩ := h
  exact mm_at o σ (j := j + 1) h1
theorem ml_Renames_sources (h : isR o c) : mm o σ (c + 2) = some (.inl (o.2.2.1 0, 12, .inl (σ (c + 2)))) := by
  obtain ⟨j, rfl, -, -, h1, -⟩ := h
  exact mm_at o σ (j := j + 2) h1
theorem isR.m (h : isR o c) : isM o (c + 3) := by
  obtain ⟨j, rfl, -, -, -, h1, h2, h3, h4⟩ := h
  exact ⟨j + 3, by omega, h1, h2, h3, h4⟩
theorem mc_Conflicts (h : isK o c) : mm o σ c = some (.inr (5, [.ref (c + 1), .ref (c + 2), .int (σ c 2)])) := by
  obtain ⟨j, rfl, h1, -⟩ := h
  exact mm_at o σ h1
theorem ml_Conflicts_codes (h : isK o c) : mm o σ (c + 1) = some (.inl (o.2.2.1 0, 24, .inl (σ (c + 1)))) := by
  obtain ⟨j, rfl, -, h1, -⟩ := h
  exact mm_at o σ (j := j + 1) h1
theorem ml_Conflicts_paths (h : isK o c) : mm o σ (c + 2) = some (.inl (o.2.2.1 0, 24, .inl (σ (c + 2)))) := by
  obtain ⟨j, rfl, -, -, h1⟩ := h
  exact mm_at o σ (j := j + 2) h1
end
/-! the single ones, and where the others stand -/
section
variable {o : jw_O} (σ : zS)
theorem mc_Branchwork : mm o σ (zb o) = some (.inr (8, [.ref (zb o + 1), .ref (zb o + 29), .ref (zb o + 905), .ref (zb o + 969), .ref (zb o + 972), .ref (zb o + 979), .ref (zb o + 983), .int (σ (zb o) 7), .int (σ (zb o) 8), .int (σ (zb o) 9)])) := mm_at o σ (j := 0) (r := (8, 0, [2, 30, 906, 970, 973, 980, 984, 0, 0, 0])) (by decide +kernel)
theorem ml_Branchwork_tips : mm o σ (zb o + 983) = some (.inl (o.2.2.1 0, 5, .inl (σ (zb o + 983)))) := mm_at o σ (j := 983) (r := (20, 5, [])) (by decide +kernel)
theorem mc_History : mm o σ (zb o + 29) = some (.inr (7, [.ref (zb o + 30), .ref (zb o + 31), .ref (zb o + 59), .ref (zb o + 60), .ref (zb o + 61), .ref (zb o + 62), .ref (zb o + 63), .ref (zb o + 64), .int (σ (zb o + 29) 8), .int (σ (zb o + 29) 9)])) := mm_at o σ (j := 29) (r := (7, 0, [31, 32, 60, 61, 62, 63, 64, 65, 0, 0])) (by decide +kernel)
theorem ml_History_notes : mm o σ (zb o + 59) = some (.inl (o.2.2.1 0, 30, .inl (σ (zb o + 59)))) := mm_at o σ (j := 59) (r := (20, 30, [])) (by decide +kernel)
theorem ml_History_firstParents : mm o σ (zb o + 60) = some (.inl (o.2.2.1 0, 30, .inl (σ (zb o + 60)))) := mm_at o σ (j := 60) (r := (20, 30, [])) (by decide +kernel)
theorem ml_History_secondParents : mm o σ (zb o + 61) = some (.inl (o.2.2.1 0, 30, .inl (σ (zb o + 61)))) := mm_at o σ (j := 61) (r := (20, 30, [])) (by decide +kernel)
theorem ml_History_treeNumbers : mm o σ (zb o + 62) = some (.inl (o.2.2.1 0, 30, .inl (σ (zb o + 62)))) := mm_at o σ (j := 62) (r := (20, 30, [])) (by decide +kernel)
theorem ml_History_contentNumbers : mm o σ (zb o + 63) = some (.inl (o.2.2.1 0, 360, .inl (σ (zb o + 63)))) := mm_at o σ (j := 63) (r := (20, 360, [])) (by decide +kernel)
theorem ml_History_metContents : mm o σ (zb o + 64) = some (.inl (o.2.2.1 0, 360, .inl (σ (zb o + 64)))) := mm_at o σ (j := 64) (r := (20, 360, [])) (by decide +kernel)
def tA (o : jw_O) (i : Nat) : Nat := zb o + 65 + 28 * i
theorem zt_trees : zt[30]? = some (23, 30, (List.range 30).map (fun i => 65 + 28 * i)) := by decide +kernel
theorem ml_History_trees : ∃ f, mm o σ (zb o + 30) = some (.inl (o.2.2.1 3, 30, .inr (.inr (.inr (.inr f))))) ∧ ∀ p, p < 30 → f p = some (tA o p) := by
  refine ⟨_, mm_at o σ (j := 30) zt_trees, fun p hp => ?_⟩
  rw [List.getElem?_map, List.getElem?_range hp]
  show some (zb o + (65 + 28 * p)) = some (zb o + 65 + 28 * p)
  congr 1
  omega
theorem mc_Merger : mm o σ (zb o + 905) = some (.inr (6, [.ref (zb o + 906), .ref (zb o + 934), .ref (zb o + 937), .ref (zb o + 944), .ref (zb o + 951), .ref (zb o + 966), .ref (zb o + 968)])) := mm_at o σ (j := 905) (r := (6, 0, [907, 935, 938, 945, 952, 967, 969])) (by decide +kernel)
theorem ml_Merger_newFromOurs : mm o σ (zb o + 968) = some (.inl (o.2.2.1 1, 12, .inl (σ (zb o + 968)))) := mm_at o σ (j := 968) (r := (21, 12, [])) (by decide +kernel)
theorem mc_Blender : mm o σ (zb o + 951) = some (.inr (4, [.ref (zb o + 952), .ref (zb o + 956), .ref (zb o + 960), .ref (zb o + 962), .ref (zb o + 964)])) := mm_at o σ (j := 951) (r := (4, 0, [953, 957, 961, 963, 965])) (by decide +kernel)
theorem zt_tree1 : ∀ i, i < 30 → zt[65 + 28 * i]? = some (1, 0, [65 + 28 * i + 2, 65 + 28 * i + 3]) := by decide +kernel
theorem zt_tree2 : ∀ i, i < 30 → zt[65 + 28 * i + 1]? = some (22, 12, (List.range 12).map (fun p => 65 + 28 * i + 4 + 2 * p)) := by decide +kernel
theorem zt_tree3 : ∀ i, i < 30 → ∀ p, p < 13 → zt[65 + 28 * i + 2 + 2 * p]? = some (0, 0, [65 + 28 * i + 2 + 2 * p + 2, 0, 0]) := by decide +kernel
theorem zt_tree4 : ∀ i, i < 30 → ∀ p, p < 13 → zt[65 + 28 * i + 2 + 2 * p + 1]? = some (20, 10, []) := by decide +kernel
theorem zt_tree : ∀ i, i < 30 → sT (65 + 28 * i) := fun i hi => ⟨zt_tree1 i hi, zt_tree2 i hi, fun p hp => ⟨zt_tree3 i hi p hp, zt_tree4 i hi p hp⟩⟩
theorem isT_i {i : Nat} (hi : i < 30) : isT o (tA o i) := ⟨65 + 28 * i, by unfold tA; omega, zt_tree i hi⟩
theorem isT_work : isT o (zb o + 1) := ⟨1, rfl, by unfold sT; decide +kernel⟩
theorem isT_none : isT o (zb o + 31) := ⟨31, rfl, by unfold sT; decide +kernel⟩
theorem isT_res : isT o (zb o + 906) := ⟨906, rfl, by unfold sT; decide +kernel⟩
theorem isK_told : isK o (zb o + 934) := ⟨934, rfl, by unfold sK; decide +kernel⟩
theorem isK_own : isK o (zb o + 969) := ⟨969, rfl, by unfold sK; decide +kernel⟩
theorem isR_ours : isR o (zb o + 937) := ⟨937, rfl, by unfold sR; decide +kernel⟩
theorem isR_theirs : isR o (zb o + 944) := ⟨944, rfl, by unfold sR; decide +kernel⟩
theorem isR_own : isR o (zb o + 972) := ⟨972, rfl, by unfold sR; decide +kernel⟩
theorem isM_ours : isM o (zb o + 952) := ⟨952, rfl, by unfold sM; decide +kernel⟩
theorem isM_theirs : isM o (zb o + 956) := ⟨956, rfl, by unfold sM; decide +kernel⟩
theorem isM_own : isM o (zb o + 979) := ⟨979, rfl, by unfold sM; decide +kernel⟩
theorem isC_base : isC o (zb o + 960) := ⟨960, rfl, by unfold sC; decide +kernel⟩
theorem isC_our : isC o (zb o + 962) := ⟨962, rfl, by unfold sC; decide +kernel⟩
theorem isC_their : isC o (zb o + 964) := ⟨964, rfl, by unfold sC; decide +kernel⟩
theorem isC_none : isC o (zb o + 966) := ⟨966, rfl, by unfold sC; decide +kernel⟩
end
/-- outside of the n cells from a on nothing has changed -/
def zF (σ σ' : zS) (a n : Nat) : Prop := ∀ q, (q < a ∨ a + n ≤ q) → σ' q = σ q
theorem zF.rf {σ : zS} {a n : Nat} : zF σ σ a n := fun _ _ => rfl
theorem zF.si {σ σ' : zS} {a n b i : Nat} {e : Int} (h : zF σ σ' a n) (hb : a ≤ b ∧ b < a + n) : zF σ (si σ' b i e) a n := fun q hq => (si_ne (by omega)).trans (h q hq)
theorem zF.trans {σ σ' σ2 : zS} {a n b m : Nat} (h : zF σ σ' a n) (f : zF σ' σ2 b m) (h1 : a ≤ b) (h2 : b + m ≤ a + n) : zF σ σ2 a n := fun q hq => (f q (by omega)).trans (h q hq)
theorem zF.mono {σ σ' : zS} {a n b m : Nat} (f : zF σ σ' b m) (h1 : a ≤ b) (h2 : b + m ≤ a + n) : zF σ σ' a n := fun q hq => f q (by omega)
end
section
theorem jd_Content_exists_0 : decode mi_Content_exists.2.1 0 = .ok (.aload_n 0, 1) := by decide +kernel
theorem jd_Content_exists_1 : decode mi_Content_exists.2.1 1 = .ok (.getfield 19, 3) := by decide +kernel
theorem jd_Content_exists_4 : decode mi_Content_exists.2.1 4 = .ok (.ireturn, 1) := by decide +kernel
theorem jd_Content_length_0 : decode mi_Content_length.2.1 0 = .ok (.aload_n 0, 1) := by decide +kernel
theorem jd_Content_length_1 : decode mi_Content_length.2.1 1 = .ok (.getfield 15, 3) := by decide +kernel
theorem jd_Content_length_4 : decode mi_Content_length.2.1 4 = .ok (.ireturn, 1) := by decide +kernel
theorem jd_Content_isFull_0 : decode mi_Content_isFull.2.1 0 = .ok (.aload_n 0, 1) := by decide +kernel
theorem jd_Content_isFull_1 : decode mi_Content_isFull.2.1 1 = .ok (.getfield 15, 3) := by decide +kernel
theorem jd_Content_isFull_4 : decode mi_Content_isFull.2.1 4 = .ok (.bipush 10, 2) := by decide +kernel
theorem jd_Content_isFull_6 : decode mi_Content_isFull.2.1 6 = .ok (.if_icmp .lt 7, 3) := by decide +kernel
theorem jd_Content_isFull_9 : decode mi_Content_isFull.2.1 9 = .ok (.iconst 1, 1) := by decide +kernel
theorem jd_Content_isFull_10 : decode mi_Content_isFull.2.1 10 = .ok (.goto 4, 3) := by decide +kernel
theorem jd_Content_isFull_13 : decode mi_Content_isFull.2.1 13 = .ok (.iconst 0, 1) := by decide +kernel
theorem jd_Content_isFull_14 : decode mi_Content_isFull.2.1 14 = .ok (.ireturn, 1) := by decide +kernel
theorem jd_Content_lineAt_0 : decode mi_Content_lineAt.2.1 0 = .ok (.iload_n 1, 1) := by decide +kernel
theorem jd_Content_lineAt_1 : decode mi_Content_lineAt.2.1 1 = .ok (.ifCond .lt 26, 3) := by decide +kernel
theorem jd_Content_lineAt_4 : decode mi_Content_lineAt.2.1 4 = .ok (.iload_n 1, 1) := by decide +kernel
theorem jd_Content_lineAt_5 : decode mi_Content_lineAt.2.1 5 = .ok (.aload_n 0, 1) := by decide +kernel
theorem jd_Content_lineAt_6 : decode mi_Content_lineAt.2.1 6 = .ok (.getfield 15, 3) := by decide +kernel
theorem jd_Content_lineAt_9 : decode mi_Content_lineAt.2.1 9 = .ok (.if_icmp .ge 18, 3) := by decide +kernel
theorem jd_Content_lineAt_12 : decode mi_Content_lineAt.2.1 12 = .ok (.iload_n 1, 1) := by decide +kernel
theorem jd_Content_lineAt_13 : decode mi_Content_lineAt.2.1 13 = .ok (.bipush 10, 2) := by decide +kernel
theorem jd_Content_lineAt_15 : decode mi_Content_lineAt.2.1 15 = .ok (.if_icmp .ge 12, 3) := by decide +kernel
theorem jd_Content_lineAt_18 : decode mi_Content_lineAt.2.1 18 = .ok (.aload_n 0, 1) := by decide +kernel
theorem jd_Content_lineAt_19 : decode mi_Content_lineAt.2.1 19 = .ok (.getfield 9, 3) := by decide +kernel
theorem jd_Content_lineAt_22 : decode mi_Content_lineAt.2.1 22 = .ok (.iload_n 1, 1) := by decide +kernel
theorem jd_Content_lineAt_23 : decode mi_Content_lineAt.2.1 23 = .ok (.iaload, 1) := by decide +kernel
theorem jd_Content_lineAt_24 : decode mi_Content_lineAt.2.1 24 = .ok (.goto 4, 3) := by decide +kernel
theorem jd_Content_lineAt_27 : decode mi_Content_lineAt.2.1 27 = .ok (.iconst (-1), 1) := by decide +kernel
theorem jd_Content_lineAt_28 : decode mi_Content_lineAt.2.1 28 = .ok (.ireturn, 1) := by decide +kernel
theorem jd_Content_becomeAbsent_0 : decode mi_Content_becomeAbsent.2.1 0 = .ok (.aload_n 0, 1) := by decide +kernel
theorem jd_Content_becomeAbsent_1 : decode mi_Content_becomeAbsent.2.1 1 = .ok (.iconst 0, 1) := by decide +kernel
theorem jd_Content_becomeAbsent_2 : decode mi_Content_becomeAbsent.2.1 2 = .ok (.putfield 15, 3) := by decide +kernel
theorem jd_Content_becomeAbsent_5 : decode mi_Content_becomeAbsent.2.1 5 = .ok (.aload_n 0, 1) := by decide +kernel
theorem jd_Content_becomeAbsent_6 : decode mi_Content_becomeAbsent.2.1 6 = .ok (.iconst 0, 1) := by decide +kernel
theorem jd_Content_becomeAbsent_7 : decode mi_Content_becomeAbsent.2.1 7 = .ok (.putfield 19, 3) := by decide +kernel
theorem jd_Content_becomeAbsent_10 : decode mi_Content_becomeAbsent.2.1 10 = .ok (.return_, 1) := by decide +kernel
theorem jd_Content_becomeEmpty_0 : decode mi_Content_becomeEmpty.2.1 0 = .ok (.aload_n 0, 1) := by decide +kernel
theorem jd_Content_becomeEmpty_1 : decode mi_Content_becomeEmpty.2.1 1 = .ok (.iconst 0, 1) := by decide +kernel
theorem jd_Content_becomeEmpty_2 : decode mi_Content_becomeEmpty.2.1 2 = .ok (.putfield 15, 3) := by decide +kernel
theorem jd_Content_becomeEmpty_5 : decode mi_Content_becomeEmpty.2.1 5 = .ok (.aload_n 0, 1) := by decide +kernel
theorem jd_Content_becomeEmpty_6 : decode mi_Content_becomeEmpty.2.1 6 = .ok (.iconst 1, 1) := by decide +kernel
theorem jd_Content_becomeEmpty_7 : decode mi_Content_becomeEmpty.2.1 7 = .ok (.putfield 19, 3) := by decide +kernel
theorem jd_Content_becomeEmpty_10 : decode mi_Content_becomeEmpty.2.1 10 = .ok (.return_, 1) := by decide +kernel
theorem jd_Content_append_0 : decode mi_Content_append.2.1 0 = .ok (.aload_n 0, 1) := by decide +kernel
theorem jd_Content_append_1 : decode mi_Content_append.2.1 1 = .ok (.getfield 15, 3) := by decide +kernel
theorem jd_Content_append_4 : decode mi_Content_append.2.1 4 = .ok (.bipush 10, 2) := by decide +kernel
theorem jd_Content_append_6 : decode mi_Content_append.2.1 6 = .ok (.if_icmp .ge 23, 3) := by decide +kernel
theorem jd_Content_append_9 : decode mi_Content_append.2.1 9 = .ok (.aload_n 0, 1) := by decide +kernel
theorem jd_Content_append_10 : decode mi_Content_append.2.1 10 = .ok (.getfield 9, 3) := by decide +kernel
theorem jd_Content_append_13 : decode mi_Content_append.2.1 13 = .ok (.aload_n 0, 1) := by decide +kernel
theorem jd_Content_append_14 : decode mi_Content_append.2.1 14 = .ok (.getfield 15, 3) := by decide +kernel
theorem jd_Content_append_17 : decode mi_Content_append.2.1 17 = .ok (.iload_n 1, 1) := by decide +kernel
theorem jd_Content_append_18 : decode mi_Content_append.2.1 18 = .ok (.iastore, 1) := by decide +kernel
theorem jd_Content_append_19 : decode mi_Content_append.2.1 19 = .ok (.aload_n 0, 1) := by decide +kernel
theorem jd_Content_append_20 : decode mi_Content_append.2.1 20 = .ok (.dup, 1) := by decide +kernel
theorem jd_Content_append_21 : decode mi_Content_append.2.1 21 = .ok (.getfield 15, 3) := by decide +kernel
theorem jd_Content_append_24 : decode mi_Content_append.2.1 24 = .ok (.iconst 1, 1) := by decide +kernel
theorem jd_Content_append_25 : decode mi_Content_append.2.1 25 = .ok (.iadd, 1) := by decide +kernel
theorem jd_Content_append_26 : decode mi_Content_append.2.1 26 = .ok (.putfield 15, 3) := by decide +kernel
theorem jd_Content_append_29 : decode mi_Content_append.2.1 29 = .ok (.return_, 1) := by decide +kernel
theorem jd_Content_appendAll_0 : decode mi_Content_appendAll.2.1 0 = .ok (.iconst 0, 1) := by decide +kernel
theorem jd_Content_appendAll_1 : decode mi_Content_appendAll.2.1 1 = .ok (.istore_n 2, 1) := by decide +kernel
theorem jd_Content_appendAll_2 : decode mi_Content_appendAll.2.1 2 = .ok (.iload_n 2, 1) := by decide +kernel
theorem jd_Content_appendAll_3 : decode mi_Content_appendAll.2.1 3 = .ok (.aload_n 1, 1) := by decide +kernel
theorem jd_Content_appendAll_4 : decode mi_Content_appendAll.2.1 4 = .ok (.invokevirtual 27, 3) := by decide +kernel
theorem jd_Content_appendAll_7 : decode mi_Content_appendAll.2.1 7 = .ok (.if_icmp .ge 18, 3) := by decide +kernel
theorem jd_Content_appendAll_10 : decode mi_Content_appendAll.2.1 10 = .ok (.aload_n 0, 1) := by decide +kernel
theorem jd_Content_appendAll_11 : decode mi_Content_appendAll.2.1 11 = .ok (.aload_n 1, 1) := by decide +kernel
theorem jd_Content_appendAll_12 : decode mi_Content_appendAll.2.1 12 = .ok (.iload_n 2, 1) := by decide +kernel
theorem jd_Content_appendAll_13 : decode mi_Content_appendAll.2.1 13 = .ok (.invokevirtual 31, 3) := by decide +kernel
theorem jd_Content_appendAll_16 : decode mi_Content_appendAll.2.1 16 = .ok (.invokevirtual 35, 3) := by decide +kernel
theorem jd_Content_appendAll_19 : decode mi_Content_appendAll.2.1 19 = .ok (.iinc 2 1, 3) := by decide +kernel
theorem jd_Content_appendAll_22 : decode mi_Content_appendAll.2.1 22 = .ok (.goto (-20), 3) := by decide +kernel
theorem jd_Content_appendAll_25 : decode mi_Content_appendAll.2.1 25 = .ok (.return_, 1) := by decide +kernel
theorem jd_Content_becomePart_0 : decode mi_Content_becomePart.2.1 0 = .ok (.aload_n 0, 1) := by decide +kernel
theorem jd_Content_becomePart_1 : decode mi_Content_becomePart.2.1 1 = .ok (.invokevirtual 39, 3) := by decide +kernel
theorem jd_Content_becomePart_4 : decode mi_Content_becomePart.2.1 4 = .ok (.iload_n 2, 1) := by decide +kernel
theorem jd_Content_becomePart_5 : decode mi_Content_becomePart.2.1 5 = .ok (.istore 4, 2) := by decide +kernel
theorem jd_Content_becomePart_7 : decode mi_Content_becomePart.2.1 7 = .ok (.iload 4, 2) := by decide +kernel
theorem jd_Content_becomePart_9 : decode mi_Content_becomePart.2.1 9 = .ok (.iload_n 3, 1) := by decide +kernel
theorem jd_Content_becomePart_10 : decode mi_Content_becomePart.2.1 10 = .ok (.if_icmp .ge 19, 3) := by decide +kernel
theorem jd_Content_becomePart_13 : decode mi_Content_becomePart.2.1 13 = .ok (.aload_n 0, 1) := by decide +kernel
theorem jd_Content_becomePart_14 : decode mi_Content_becomePart.2.1 14 = .ok (.aload_n 1, 1) := by decide +kernel
theorem jd_Content_becomePart_15 : decode mi_Content_becomePart.2.1 15 = .ok (.iload 4, 2) := by decide +kernel
theorem jd_Content_becomePart_17 : decode mi_Content_becomePart.2.1 17 = .ok (.invokevirtual 31, 3) := by decide +kernel
theorem jd_Content_becomePart_20 : decode mi_Content_becomePart.2.1 20 = .ok (.invokevirtual 35, 3) := by decide +kernel
theorem jd_Content_becomePart_23 : decode mi_Content_becomePart.2.1 23 = .ok (.iinc 4 1, 3) := by decide +kernel
theorem jd_Content_becomePart_26 : decode mi_Content_becomePart.2.1 26 = .ok (.goto (-19), 3) := by decide +kernel
theorem jd_Content_becomePart_29 : decode mi_Content_becomePart.2.1 29 = .ok (.return_, 1) := by decide +kernel
theorem jd_Content_copyFrom_0 : decode mi_Content_copyFrom.2.1 0 = .ok (.aload_n 0, 1) := by decide +kernel
theorem jd_Content_copyFrom_1 : decode mi_Content_copyFrom.2.1 1 = .ok (.aload_n 1, 1) := by decide +kernel
theorem jd_Content_copyFrom_2 : decode mi_Content_copyFrom.2.1 2 = .ok (.invokevirtual 27, 3) := by decide +kernel
theorem jd_Content_copyFrom_5 : decode mi_Content_copyFrom.2.1 5 = .ok (.bipush 10, 2) := by decide +kernel
theorem jd_Content_copyFrom_7 : decode mi_Content_copyFrom.2.1 7 = .ok (.invokestatic 42, 3) := by decide +kernel
theorem jd_Content_copyFrom_10 : decode mi_Content_copyFrom.2.1 10 = .ok (.putfield 15, 3) := by decide +kernel
theorem jd_Content_copyFrom_13 : decode mi_Content_copyFrom.2.1 13 = .ok (.aload_n 0, 1) := by decide +kernel
theorem jd_Content_copyFrom_14 : decode mi_Content_copyFrom.2.1 14 = .ok (.aload_n 1, 1) := by decide +kernel
theorem jd_Content_copyFrom_15 : decode mi_Content_copyFrom.2.1 15 = .ok (.invokevirtual 48, 3) := by decide +kernel
theorem jd_Content_copyFrom_18 : decode mi_Content_copyFrom.2.1 18 = .ok (.putfield 19, 3) := by decide +kernel
theorem jd_Content_copyFrom_21 : decode mi_Content_copyFrom.2.1 21 = .ok (.iconst 0, 1) := by decide +kernel
theorem jd_Content_copyFrom_22 : decode mi_Content_copyFrom.2.1 22 = .ok (.istore_n 2, 1) := by decide +kernel
theorem jd_Content_copyFrom_23 : decode mi_Content_copyFrom.2.1 23 = .ok (.iload_n 2, 1) := by decide +kernel
theorem jd_Content_copyFrom_24 : decode mi_Content_copyFrom.2.1 24 = .ok (.aload_n 0, 1) := by decide +kernel
theorem jd_Content_copyFrom_25 : decode mi_Content_copyFrom.2.1 25 = .ok (.getfield 15, 3) := by decide +kernel
theorem jd_Content_copyFrom_28 : decode mi_Content_copyFrom.2.1 28 = .ok (.if_icmp .ge 20, 3) := by decide +kernel
theorem jd_Content_copyFrom_31 : decode mi_Content_copyFrom.2.1 31 = .ok (.aload_n 0, 1) := by decide +kernel
theorem jd_Content_copyFrom_32 : decode mi_Content_copyFrom.2.1 32 = .ok (.getfield 9, 3) := by decide +kernel
theorem jd_Content_copyFrom_35 : decode mi_Content_copyFrom.2.1 35 = .ok (.iload_n 2, 1) := by decide +kernel
theorem jd_Content_copyFrom_36 : decode mi_Content_copyFrom.2.1 36 = .ok (.aload_n 1, 1) := by decide +kernel
theorem jd_Content_copyFrom_37 : decode mi_Content_copyFrom.2.1 37 = .ok (.iload_n 2, 1) := by decide +kernel
theorem jd_Content_copyFrom_38 : decode mi_Content_copyFrom.2.1 38 = .ok (.invokevirtual 31, 3) := by decide +kernel
theorem jd_Content_copyFrom_41 : decode mi_Content_copyFrom.2.1 41 = .ok (.iastore, 1) := by decide +kernel
theorem jd_Content_copyFrom_42 : decode mi_Content_copyFrom.2.1 42 = .ok (.iinc 2 1, 3) := by decide +kernel
theorem jd_Content_copyFrom_45 : decode mi_Content_copyFrom.2.1 45 = .ok (.goto (-22), 3) := by decide +kernel
theorem jd_Content_copyFrom_48 : decode mi_Content_copyFrom.2.1 48 = .ok (.return_, 1) := by decide +kernel
theorem jd_Content_sameAs_0 : decode mi_Content_sameAs.2.1 0 = .ok (.aload_n 0, 1) := by decide +kernel
theorem jd_Content_sameAs_1 : decode mi_Content_sameAs.2.1 1 = .ok (.getfield 19, 3) := by decide +kernel
theorem jd_Content_sameAs_4 : decode mi_Content_sameAs.2.1 4 = .ok (.aload_n 1, 1) := by decide +kernel
theorem jd_Content_sameAs_5 : decode mi_Content_sameAs.2.1 5 = .ok (.invokevirtual 48, 3) := by decide +kernel
theorem jd_Content_sameAs_8 : decode mi_Content_sameAs.2.1 8 = .ok (.if_icmp .ne 14, 3) := by decide +kernel
theorem jd_Content_sameAs_11 : decode mi_Content_sameAs.2.1 11 = .ok (.aload_n 0, 1) := by decide +kernel
theorem jd_Content_sameAs_12 : decode mi_Content_sameAs.2.1 12 = .ok (.getfield 15, 3) := by decide +kernel
theorem jd_Content_sameAs_15 : decode mi_Content_sameAs.2.1 15 = .ok (.aload_n 1, 1) := by decide +kernel
theorem jd_Content_sameAs_16 : decode mi_Content_sameAs.2.1 16 = .ok (.invokevirtual 27, 3) := by decide +kernel
theorem jd_Content_sameAs_19 : decode mi_Content_sameAs.2.1 19 = .ok (.if_icmp .eq 5, 3) := by decide +kernel
theorem jd_Content_sameAs_22 : decode mi_Content_sameAs.2.1 22 = .ok (.iconst 0, 1) := by decide +kernel
theorem jd_Content_sameAs_23 : decode mi_Content_sameAs.2.1 23 = .ok (.ireturn, 1) := by decide +kernel
theorem jd_Content_sameAs_24 : decode mi_Content_sameAs.2.1 24 = .ok (.iconst 0, 1) := by decide +kernel
theorem jd_Content_sameAs_25 : decode mi_Content_sameAs.2.1 25 = .ok (.istore_n 2, 1) := by decide +kernel
theorem jd_Content_sameAs_26 : decode mi_Content_sameAs.2.1 26 = .ok (.iload_n 2, 1) := by decide +kernel
theorem jd_Content_sameAs_27 : decode mi_Content_sameAs.2.1 27 = .ok (.aload_n 0, 1) := by decide +kernel
theorem jd_Content_sameAs_28 : decode mi_Content_sameAs.2.1 28 = .ok (.getfield 15, 3) := by decide +kernel
theorem jd_Content_sameAs_31 : decode mi_Content_sameAs.2.1 31 = .ok (.if_icmp .ge 25, 3) := by decide +kernel
theorem jd_Content_sameAs_34 : decode mi_Content_sameAs.2.1 34 = .ok (.aload_n 0, 1) := by decide +kernel
theorem jd_Content_sameAs_35 : decode mi_Content_sameAs.2.1 35 = .ok (.getfield 9, 3) := by decide +kernel
theorem jd_Content_sameAs_38 : decode mi_Content_sameAs.2.1 38 = .ok (.iload_n 2, 1) := by decide +kernel
theorem jd_Content_sameAs_39 : decode mi_Content_sameAs.2.1 39 = .ok (.iaload, 1) := by decide +kernel
theorem jd_Content_sameAs_40 : decode mi_Content_sameAs.2.1 40 = .ok (.aload_n 1, 1) := by decide +kernel
theorem jd_Content_sameAs_41 : decode mi_Content_sameAs.2.1 41 = .ok (.iload_n 2, 1) := by decide +kernel
theorem jd_Content_sameAs_42 : decode mi_Content_sameAs.2.1 42 = .ok (.invokevirtual 31, 3) := by decide +kernel
theorem jd_Content_sameAs_45 : decode mi_Content_sameAs.2.1 45 = .ok (.if_icmp .eq 5, 3) := by decide +kernel
theorem jd_Content_sameAs_48 : decode mi_Content_sameAs.2.1 48 = .ok (.iconst 0, 1) := by decide +kernel
theorem jd_Content_sameAs_49 : decode mi_Content_sameAs.2.1 49 = .ok (.ireturn, 1) := by decide +kernel
theorem jd_Content_sameAs_50 : decode mi_Content_sameAs.2.1 50 = .ok (.iinc 2 1, 3) := by decide +kernel
theorem jd_Content_sameAs_53 : decode mi_Content_sameAs.2.1 53 = .ok (.goto (-27), 3) := by decide +kernel
theorem jd_Content_sameAs_56 : decode mi_Content_sameAs.2.1 56 = .ok (.iconst 1, 1) := by decide +kernel
theorem jd_Content_sameAs_57 : decode mi_Content_sameAs.2.1 57 = .ok (.ireturn, 1) := by decide +kernel
theorem jd_Content_insert_0 : decode mi_Content_insert.2.1 0 = .ok (.iload_n 1, 1) := by decide +kernel
theorem jd_Content_insert_1 : decode mi_Content_insert.2.1 1 = .ok (.ifCond .lt 20, 3) := by decide +kernel
theorem jd_Content_insert_4 : decode mi_Content_insert.2.1 4 = .ok (.iload_n 1, 1) := by decide +kernel
theorem jd_Content_insert_5 : decode mi_Content_insert.2.1 5 = .ok (.aload_n 0, 1) := by decide +kernel
theorem jd_Content_insert_6 : decode mi_Content_insert.2.1 6 = .ok (.getfield 15, 3) := by decide +kernel
theorem jd_Content_insert_9 : decode mi_Content_insert.2.1 9 = .ok (.if_icmp .gt 12, 3) := by decide +kernel
theorem jd_Content_insert_12 : decode mi_Content_insert.2.1 12 = .ok (.aload_n 0, 1) := by decide +kernel
theorem jd_Content_insert_13 : decode mi_Content_insert.2.1 13 = .ok (.getfield 15, 3) := by decide +kernel
theorem jd_Content_insert_16 : decode mi_Content_insert.2.1 16 = .ok (.bipush 10, 2) := by decide +kernel
theorem jd_Content_insert_18 : decode mi_Content_insert.2.1 18 = .ok (.if_icmp .lt 4, 3) := by decide +kernel
theorem jd_Content_insert_21 : decode mi_Content_insert.2.1 21 = .ok (.return_, 1) := by decide +kernel
theorem jd_Content_insert_22 : decode mi_Content_insert.2.1 22 = .ok (.aload_n 0, 1) := by decide +kernel
theorem jd_Content_insert_23 : decode mi_Content_insert.2.1 23 = .ok (.getfield 15, 3) := by decide +kernel
theorem jd_Content_insert_26 : decode mi_Content_insert.2.1 26 = .ok (.istore_n 3, 1) := by decide +kernel
theorem jd_Content_insert_27 : decode mi_Content_insert.2.1 27 = .ok (.iload_n 3, 1) := by decide +kernel
theorem jd_Content_insert_28 : decode mi_Content_insert.2.1 28 = .ok (.iload_n 1, 1) := by decide +kernel
theorem jd_Content_insert_29 : decode mi_Content_insert.2.1 29 = .ok (.if_icmp .le 23, 3) := by decide +kernel
theorem jd_Content_insert_32 : decode mi_Content_insert.2.1 32 = .ok (.aload_n 0, 1) := by decide +kernel
theorem jd_Content_insert_33 : decode mi_Content_insert.2.1 33 = .ok (.getfield 9, 3) := by decide +kernel
theorem jd_Content_insert_36 : decode mi_Content_insert.2.1 36 = .ok (.iload_n 3, 1) := by decide +kernel
theorem jd_Content_insert_37 : decode mi_Content_insert.2.1 37 = .ok (.aload_n 0, 1) := by decide +kernel
theorem jd_Content_insert_38 : decode mi_Content_insert.2.1 38 = .ok (.getfield 9, 3) := by decide +kernel
theorem jd_Content_insert_41 : decode mi_Content_insert.2.1 41 = .ok (.iload_n 3, 1) := by decide +kernel
theorem jd_Content_insert_42 : decode mi_Content_insert.2.1 42 = .ok (.iconst 1, 1) := by decide +kernel
theorem jd_Content_insert_43 : decode mi_Content_insert.2.1 43 = .ok (.isub, 1) := by decide +kernel
theorem jd_Content_insert_44 : decode mi_Content_insert.2.1 44 = .ok (.iaload, 1) := by decide +kernel
theorem jd_Content_insert_45 : decode mi_Content_insert.2.1 45 = .ok (.iastore, 1) := by decide +kernel
theorem jd_Content_insert_46 : decode mi_Content_insert.2.1 46 = .ok (.iinc 3 (-1), 3) := by decide +kernel
theorem jd_Content_insert_49 : decode mi_Content_insert.2.1 49 = .ok (.goto (-22), 3) := by decide +kernel
theorem jd_Content_insert_52 : decode mi_Content_insert.2.1 52 = .ok (.aload_n 0, 1) := by decide +kernel
theorem jd_Content_insert_53 : decode mi_Content_insert.2.1 53 = .ok (.getfield 9, 3) := by decide +kernel
theorem jd_Content_insert_56 : decode mi_Content_insert.2.1 56 = .ok (.iload_n 1, 1) := by decide +kernel
theorem jd_Content_insert_57 : decode mi_Content_insert.2.1 57 = .ok (.iload_n 2, 1) := by decide +kernel
theorem jd_Content_insert_58 : decode mi_Content_insert.2.1 58 = .ok (.iastore, 1) := by decide +kernel
theorem jd_Content_insert_59 : decode mi_Content_insert.2.1 59 = .ok (.aload_n 0, 1) := by decide +kernel
theorem jd_Content_insert_60 : decode mi_Content_insert.2.1 60 = .ok (.dup, 1) := by decide +kernel
theorem jd_Content_insert_61 : decode mi_Content_insert.2.1 61 = .ok (.getfield 15, 3) := by decide +kernel
theorem jd_Content_insert_64 : decode mi_Content_insert.2.1 64 = .ok (.iconst 1, 1) := by decide +kernel
theorem jd_Content_insert_65 : decode mi_Content_insert.2.1 65 = .ok (.iadd, 1) := by decide +kernel
theorem jd_Content_insert_66 : decode mi_Content_insert.2.1 66 = .ok (.putfield 15, 3) := by decide +kernel
theorem jd_Content_insert_69 : decode mi_Content_insert.2.1 69 = .ok (.aload_n 0, 1) := by decide +kernel
theorem jd_Content_insert_70 : decode mi_Content_insert.2.1 70 = .ok (.iconst 1, 1) := by decide +kernel
theorem jd_Content_insert_71 : decode mi_Content_insert.2.1 71 = .ok (.putfield 19, 3) := by decide +kernel
theorem jd_Content_insert_74 : decode mi_Content_insert.2.1 74 = .ok (.return_, 1) := by decide +kernel
/-! the contents: VC o σ c a: the content at c is a = (1 if there is a file, how many lines, the lines; -1 beside them) -/
section
variable {mi : jw_M} {o : jw_O} {k : jw_K} {kc ks pc pc' : Nat} {lc lc' : List (Nat × Value)} {st rest : List Value} {σ : zS} {hs : Nat}
theorem zx_files {t j : Nat} {x : Int} (h : isT o t) (hd : decode mi.2.1 pc = .ok (.aaload, 1)) (hx : x = (j : Int)) (hj : j < 12) (hp : pc + 1 = pc') (kk : jw_X mi o k kc ks pc' lc (.ref (fA t j) :: rest) (mm o σ) hs) : jw_X mi o k kc ks pc lc (.int (iI x) :: .ref (t + 1) :: rest) (mm o σ) hs := by
  obtain ⟨f, h1, h2⟩ := ml_Tree_files σ h
  exact zx_aald (i := 2) (C := "Branchwork$Content") hd h1 rfl hx hj (Nat.le_of_ble_eq_true rfl) (h2 j hj) hp kk
theorem zx_trees {j : Nat} {x : Int} (hd : decode mi.2.1 pc = .ok (.aaload, 1)) (hx : x = (j : Int)) (hj : j < 30) (hp : pc + 1 = pc') (kk : jw_X mi o k kc ks pc' lc (.ref (tA o j) :: rest) (mm o σ) hs) : jw_X mi o k kc ks pc lc (.int (iI x) :: .ref (zb o + 30) :: rest) (mm o σ) hs := by
  obtain ⟨f, h1, h2⟩ := ml_History_trees (o := o) σ
  exact zx_aald (i := 3) (C := "Branchwork$Tree") hd h1 rfl hx hj (Nat.le_of_ble_eq_true rfl) (h2 j hj) hp kk
end
def it {α : Type} (f : Nat → α → α) : Nat → Nat → α → α
  | 0, _, s => s
  | k + 1, i, s => it f k (i + 1) (f i s)
abbrev zV : Type := Int × Nat × (Nat → Int)
def okV (a : zV) : Prop := (a.1 = 0 ∧ a.2.1 = 0 ∨ a.1 = 1 ∧ a.2.1 ≤ 10) ∧ (∀ j, -2147483648 ≤ a.2.2 j ∧ a.2.2 j < 2147483648) ∧ ∀ j, a.2.1 ≤ j → a.2.2 j = -1
theorem okV.n {a : zV} (h : okV a) : a.2.1 ≤ 10 := by rcases h.1 with q | q <;> omega
theorem okV.p {a : zV} (h : okV a) : a.1 = 0 ∨ a.1 = 1 := by rcases h.1 with q | q <;> omega
theorem okV.z {a : zV} (h : okV a) (h0 : a.1 = 0) : a.2.1 = 0 := by rcases h.1 with q | q <;> omega
def VC (o : jw_O) (σ : zS) (c : Nat) (a : zV) : Prop := isC o c ∧ okV a ∧ iv σ c 2 = a.1 ∧ iv σ c 1 = a.2.1 ∧ ∀ j, j < a.2.1 → iv σ (c + 1) j = a.2.2 j
theorem VC.cell {o : jw_O} {σ σ' : zS} {c : Nat} {a : zV} (h : VC o σ c a) (h1 : σ' c = σ c) (h2 : σ' (c + 1) = σ (c + 1)) : VC o σ' c a := by
  obtain ⟨x1, x2, x3, x4, x5⟩ := h
  exact ⟨x1, x2, (iv_cell h1 _).trans x3, (iv_cell h1 _).trans x4, fun j hj => (iv_cell h2 _).trans (x5 j hj)⟩
theorem VC.fr {o : jw_O} {σ σ' : zS} {c b m : Nat} {a : zV} (h : VC o σ c a) (f : zF σ σ' b m) (hd : c + 2 ≤ b ∨ b + m ≤ c) : VC o σ' c a := h.cell (f _ (by omega)) (f _ (by omega))
theorem VC.eq {o : jw_O} {σ : zS} {c : Nat} {a b : zV} (h : VC o σ c a) (h' : VC o σ c b) : a = b := by
  obtain ⟨-, x2, x3, x4, x5⟩ := h
  obtain ⟨-, y2, y3, y4, y5⟩ := h'
  obtain ⟨a1, a2, a3⟩ := a
  obtain ⟨b1, b2, b3⟩ := b
  simp only at x3 x4 x5 y3 y4 y5
  have e1 : a1 = b1 := by omega
  have e2 : a2 = b2 := by omega
  have z1 : ∀ j, a2 ≤ j → a3 j = -1 := x2.2.2
  have z2 : ∀ j, b2 ≤ j → b3 j = -1 := y2.2.2
  have e3 : a3 = b3 := by
    funext j
    by_cases hj : j < a2
    · rw [← x5 j hj, y5 j (by omega)]
    · rw [z1 j (by omega), z2 j (by omega)]
  rw [e1, e2, e3]
/-- the value out of the cells -/
def cv (σ : zS) (c : Nat) : zV := (iv σ c 2, (iv σ c 1).toNat, fun j => if (j : Int) < iv σ c 1 then iv σ (c + 1) j else -1)
theorem VC.mk {o : jw_O} {σ : zS} {c : Nat} (hc : isC o c) (h : iv σ c 2 = 0 ∧ iv σ c 1 = 0 ∨ iv σ c 2 = 1 ∧ 0 ≤ iv σ c 1 ∧ iv σ c 1 ≤ 10) : VC o σ c (cv σ c) := by
  refine ⟨hc, ⟨?_, fun j => ?_, fun j hj => ?_⟩, rfl, ?_, fun j hj => ?_⟩
  · unfold cv; simp only; omega
  · unfold cv; simp only; split
    · exact rg_iv _ _ _
    · omega
  · unfold cv at hj ⊢; simp only at hj ⊢; rw [if_neg (by omega)]
  · unfold cv; simp only; omega
  · unfold cv at hj ⊢; simp only at hj ⊢; rw [if_pos (by omega)]
def v0 : zV := (0, 0, fun _ => -1)
def v1 : zV := (1, 0, fun _ => -1)
def vApp (a : zV) (x : Int) : zV := if a.2.1 < 10 then (a.1, a.2.1 + 1, fun j => if j = a.2.1 then x else a.2.2 j) else a
def vAll (a b : zV) : zV := it (fun i u => vApp u (b.2.2 i)) b.2.1 0 a
def vPart (w : zV) (f e : Nat) : zV := it (fun i u => vApp u (w.2.2 i)) (e - f) f v1
noncomputable def eqV (a b : zV) : Int := @ite _ (a = b) (Classical.propDecidable _) 1 0
theorem eqV_t {a b : zV} (h : a = b) : eqV a b = 1 := by unfold eqV; rw [if_pos h]
theorem eqV_f {a b : zV} (h : ¬ a = b) : eqV a b = 0 := by unfold eqV; rw [if_neg h]
theorem eqV_01 (a b : zV) : eqV a b = 0 ∨ eqV a b = 1 := by
  by_cases h : a = b
  · exact Or.inr (eqV_t h)
  · exact Or.inl (eqV_f h)
theorem eqV_1 {a b : zV} : eqV a b = 1 ↔ a = b := by
  by_cases h : a = b
  · simp only [eqV_t h, true_iff]; exact h
  · simp [eqV_f h, h]
theorem eqV_0 {a b : zV} : eqV a b = 0 ↔ ¬ a = b := by
  by_cases h : a = b
  · simp [eqV_t h]; exact h
  · simp [eqV_f h, h]
section
variable {o : jw_O} {σ : zS} {c : Nat} {a : zV}
theorem c_exists (h : VC o σ c a) : zRo mi_Content_exists 0 o [.ref c] σ (some (.int (iI a.1))) := by
  obtain ⟨hc, hk, e1, e2, e3⟩ := h
  have := hk.p
  refine z_spec (by decide +kernel) (Nat.le_of_ble_eq_true rfl) rfl (fun k hs hR hE => ?_)
  refine jw_aload_n (pc' := 1) jd_Content_exists_0 rfl rfl rfl ?_
  refine zx_getI (pc' := 4) (kf := 2) jc_Content (by decide) jq_64 jd_Content_exists_1 (mc_Content _ (by assumption)) rfl rfl ?_
  refine zx_zret (by first | exact Or.inl rfl | exact Or.inr rfl | assumption | omega) hE jd_Content_exists_4 rfl ?_
  exact ⟨by rw [e1], rfl⟩
theorem c_length (h : VC o σ c a) : zRo mi_Content_length 0 o [.ref c] σ (some (.int (iI a.2.1))) := by
  obtain ⟨hc, hk, e1, e2, e3⟩ := h
  refine z_spec (by decide +kernel) (Nat.le_of_ble_eq_true rfl) rfl (fun k hs hR hE => ?_)
  refine jw_aload_n (pc' := 1) jd_Content_length_0 rfl rfl rfl ?_
  refine zx_getI (pc' := 4) (kf := 1) jc_Content (by decide) jq_63 jd_Content_length_1 (mc_Content _ (by assumption)) rfl rfl ?_
  refine zx_iret hE jd_Content_length_4 rfl ?_
  exact ⟨by rw [e2], rfl⟩
theorem c_isFull (h : VC o σ c a) (hn : a.2.1 < 10) : zRo mi_Content_isFull 0 o [.ref c] σ (some (.int (iI 0))) := by
  obtain ⟨hc, hk, e1, e2, e3⟩ := h
  refine z_spec (by decide +kernel) (Nat.le_of_ble_eq_true rfl) rfl (fun k hs hR hE => ?_)
  refine jw_aload_n (pc' := 1) jd_Content_isFull_0 rfl rfl rfl ?_
  refine zx_getI (pc' := 4) (kf := 1) jc_Content (by decide) jq_63 jd_Content_isFull_1 (mc_Content _ (by assumption)) rfl rfl ?_
  refine zx_bipush (pc' := 6) (n := 10) jd_Content_isFull_4 (by decide +kernel) rfl ?_
  refine zx_icmp_lt (tgt := 13) (pc' := 9) (by first | exact rg_iv _ _ _ | omega) (by first | exact rg_iv _ _ _ | omega) jd_Content_isFull_6 (by decide) rfl (fun q => ?_) (fun q => ?_)
  rotate_left
  · exfalso; omega
  refine zx_iconst (pc' := 14) (n := 0) jd_Content_isFull_13 rfl ?_
  refine zx_zret (by first | exact Or.inl rfl | exact Or.inr rfl | assumption | omega) hE jd_Content_isFull_14 rfl ?_
  exact ⟨rfl, rfl⟩
theorem c_lineAt (h : VC o σ c a) (j : Nat) (hj : j < 1000) : zRo mi_Content_lineAt 0 o [.ref c, .int (iI j)] σ (some (.int (iI (a.2.2 j)))) := by
  obtain ⟨hc, hk, e1, e2, e3⟩ := h
  have hn := hk.n
  refine z_spec (by decide +kernel) (Nat.le_of_ble_eq_true rfl) rfl (fun k hs hR hE => ?_)
  refine jw_iload_n (pc' := 1) jd_Content_lineAt_0 rfl rfl rfl ?_
  refine zx_if_lt (tgt := 27) (pc' := 4) (by first | exact rg_iv _ _ _ | omega) jd_Content_lineAt_1 (by decide) rfl (fun q => ?_) (fun q => ?_)
  · exfalso; omega
  refine jw_iload_n (pc' := 5) jd_Content_lineAt_4 rfl rfl rfl ?_
  refine jw_aload_n (pc' := 6) jd_Content_lineAt_5 rfl rfl rfl ?_
  refine zx_getI (pc' := 9) (kf := 1) jc_Content (by decide) jq_63 jd_Content_lineAt_6 (mc_Content _ (by assumption)) rfl rfl ?_
  refine zx_icmp_ge (tgt := 27) (pc' := 12) (by first | exact rg_iv _ _ _ | omega) (by first | exact rg_iv _ _ _ | omega) jd_Content_lineAt_9 (by decide) rfl (fun q2 => ?_) (fun q2 => ?_)
  · refine zx_iconst (pc' := 28) (n := -1) jd_Content_lineAt_27 rfl ?_
    refine zx_iret hE jd_Content_lineAt_28 rfl ?_
    exact ⟨by rw [hk.2.2 j (by omega)], rfl⟩
  · refine jw_iload_n (pc' := 13) jd_Content_lineAt_12 rfl rfl rfl ?_
    refine zx_bipush (pc' := 15) (n := 10) jd_Content_lineAt_13 (by decide +kernel) rfl ?_
    refine zx_icmp_ge (tgt := 27) (pc' := 18) (by first | exact rg_iv _ _ _ | omega) (by first | exact rg_iv _ _ _ | omega) jd_Content_lineAt_15 (by decide) rfl (fun q3 => ?_) (fun q3 => ?_)
    · exfalso; omega
    refine jw_aload_n (pc' := 19) jd_Content_lineAt_18 rfl rfl rfl ?_
    refine jw_get (pc' := 22) (kf := 0) jc_Content (by decide) jq_62 jd_Content_lineAt_19 (mc_Content _ (by assumption)) rfl rfl ?_
    refine jw_iload_n (pc' := 23) jd_Content_lineAt_22 rfl rfl rfl ?_
    refine zx_iald (pc' := 24) jd_Content_lineAt_23 (ml_Content_lines _ (by assumption)) rfl (by omega) (Nat.le_of_ble_eq_true rfl) rfl ?_
    refine jw_goto (tgt := 28) jd_Content_lineAt_24 (by decide) ?_
    refine zx_iret hE jd_Content_lineAt_28 rfl ?_
    exact ⟨by rw [e3 j (by omega)], rfl⟩
theorem c_absent {n : Int} (hc : isC o c) (h : iv σ c 1 = n) : zSpec mi_Content_becomeAbsent 0 o [.ref c] σ (fun v s => v = none ∧ VC o s c v0 ∧ zF σ s c 2) := by
  refine z_spec (by decide +kernel) (Nat.le_of_ble_eq_true rfl) rfl (fun k hs hR hE => ?_)
  refine jw_aload_n (pc' := 1) jd_Content_becomeAbsent_0 rfl rfl rfl ?_
  refine zx_iconst (pc' := 2) (n := 0) jd_Content_becomeAbsent_1 rfl ?_
  refine zx_putI (pc' := 5) (kf := 1) jc_Content (by decide) jq_63 jd_Content_becomeAbsent_2 rfl (by decide +kernel) (mc_Content _ (by assumption)) rfl rfl ?_
  refine jw_aload_n (pc' := 6) jd_Content_becomeAbsent_5 rfl rfl rfl ?_
  refine zx_iconst (pc' := 7) (n := 0) jd_Content_becomeAbsent_6 rfl ?_
  refine zx_putZ (pc' := 10) (kf := 2) (by first | exact Or.inl rfl | exact Or.inr rfl | assumption | omega) jc_Content (by decide) jq_64 jd_Content_becomeAbsent_7 rfl (by decide +kernel) (mc_Content _ (by assumption)) rfl rfl ?_
  refine zx_vret hE jd_Content_becomeAbsent_10 rfl ?_
  refine ⟨rfl, ⟨hc, ⟨Or.inl ⟨rfl, rfl⟩, fun j => by simp [v0], fun j _ => rfl⟩, ?_, ?_, fun j hj => absurd hj (by simp [v0])⟩, (zF.rf.si (by omega)).si (by omega)⟩
  · rw [iv_si (by omega), if_pos ⟨rfl, rfl⟩]; rfl
  · rw [iv_si (by omega), if_neg (by omega), iv_si (by omega), if_pos ⟨rfl, rfl⟩]; rfl
theorem c_empty (hc : isC o c) : zSpec mi_Content_becomeEmpty 0 o [.ref c] σ (fun v s => v = none ∧ VC o s c v1 ∧ zF σ s c 2) := by
  refine z_spec (by decide +kernel) (Nat.le_of_ble_eq_true rfl) rfl (fun k hs hR hE => ?_)
  refine jw_aload_n (pc' := 1) jd_Content_becomeEmpty_0 rfl rfl rfl ?_
  refine zx_iconst (pc' := 2) (n := 0) jd_Content_becomeEmpty_1 rfl ?_
  refine zx_putI (pc' := 5) (kf := 1) jc_Content (by decide) jq_63 jd_Content_becomeEmpty_2 rfl (by decide +kernel) (mc_Content _ (by assumption)) rfl rfl ?_
  refine jw_aload_n (pc' := 6) jd_Content_becomeEmpty_5 rfl rfl rfl ?_
  refine zx_iconst (pc' := 7) (n := 1) jd_Content_becomeEmpty_6 rfl ?_
  refine zx_putZ (pc' := 10) (kf := 2) (by first | exact Or.inl rfl | exact Or.inr rfl | assumption | omega) jc_Content (by decide) jq_64 jd_Content_becomeEmpty_7 rfl (by decide +kernel) (mc_Content _ (by assumption)) rfl rfl ?_
  refine zx_vret hE jd_Content_becomeEmpty_10 rfl ?_
  refine ⟨rfl, ⟨hc, ⟨Or.inr ⟨rfl, by simp [v1]⟩, fun j => by simp [v1], fun j _ => rfl⟩, ?_, ?_, fun j hj => absurd hj (by simp [v1])⟩, (zF.rf.si (by omega)).si (by omega)⟩
  · rw [iv_si (by omega), if_pos ⟨rfl, rfl⟩]; rfl
  · rw [iv_si (by omega), if_neg (by omega), iv_si (by omega), if_pos ⟨rfl, rfl⟩]; rfl
theorem vApp_ok {x : Int} (h : okV a) (h1 : a.1 = 1) (hx : -2147483648 ≤ x ∧ x < 2147483648) : okV (vApp a x) ∧ (vApp a x).1 = 1 := by
  unfold vApp
  split
  · refine ⟨⟨Or.inr ⟨h1, by simp only; omega⟩, fun j => ?_, fun j hj => ?_⟩, h1⟩
    · simp only; split
      · exact hx
      · exact h.2.1 j
    · simp only at hj ⊢; rw [if_neg (by omega)]; exact h.2.2 j (by omega)
  · exact ⟨h, h1⟩
theorem c_append {x : Int} (h : VC o σ c a) (h1 : a.1 = 1) (hx : -2147483648 ≤ x ∧ x < 2147483648) : zSpec mi_Content_append 0 o [.ref c, .int (iI x)] σ (fun v s => v = none ∧ VC o s c (vApp a x) ∧ zF σ s c 2) := by
  have hok := (vApp_ok h.2.1 h1 hx).1
  obtain ⟨hc, hk, e1, e2, e3⟩ := h
  have hn := hk.n
  refine z_spec (by decide +kernel) (Nat.le_of_ble_eq_true rfl) rfl (fun k hs hR hE => ?_)
  refine jw_aload_n (pc' := 1) jd_Content_append_0 rfl rfl rfl ?_
  refine zx_getI (pc' := 4) (kf := 1) jc_Content (by decide) jq_63 jd_Content_append_1 (mc_Content _ (by assumption)) rfl rfl ?_
  refine zx_bipush (pc' := 6) (n := 10) jd_Content_append_4 (by decide +kernel) rfl ?_
  refine zx_icmp_ge (tgt := 29) (pc' := 9) (by first | exact rg_iv _ _ _ | omega) (by first | exact rg_iv _ _ _ | omega) jd_Content_append_6 (by decide) rfl (fun q => ?_) (fun q => ?_)
  · refine zx_vret hE jd_Content_append_29 rfl ?_
    refine ⟨rfl, ?_, zF.rf⟩
    unfold vApp
    rw [if_neg (by omega)]
    exact ⟨hc, hk, e1, e2, e3⟩
  · skip
    refine jw_aload_n (pc' := 10) jd_Content_append_9 rfl rfl rfl ?_
    refine jw_get (pc' := 13) (kf := 0) jc_Content (by decide) jq_62 jd_Content_append_10 (mc_Content _ (by assumption)) rfl rfl ?_
    refine jw_aload_n (pc' := 14) jd_Content_append_13 rfl rfl rfl ?_
    refine zx_getI (pc' := 17) (kf := 1) jc_Content (by decide) jq_63 jd_Content_append_14 (mc_Content _ (by assumption)) rfl rfl ?_
    refine jw_iload_n (pc' := 18) jd_Content_append_17 rfl rfl rfl ?_
    refine zx_iast (pc' := 19) (j := a.2.1) jd_Content_append_18 (ml_Content_lines _ (by assumption)) e2 (by omega) (Nat.le_of_ble_eq_true rfl) rfl ?_
    refine jw_aload_n (pc' := 20) jd_Content_append_19 rfl rfl rfl ?_
    refine jw_dup (pc' := 21) jd_Content_append_20 rfl rfl ?_
    refine zx_getI (pc' := 24) (kf := 1) jc_Content (by decide) jq_63 jd_Content_append_21 (mc_Content _ (by assumption)) rfl rfl ?_
    refine zx_iconst (pc' := 25) (n := 1) jd_Content_append_24 rfl ?_
    refine zx_iadd (pc' := 26) jd_Content_append_25 rfl ?_
    refine zx_putI (pc' := 29) (kf := 1) jc_Content (by decide) jq_63 jd_Content_append_26 rfl (by decide +kernel) (mc_Content _ (by assumption)) rfl rfl ?_
    refine zx_vret hE jd_Content_append_29 rfl ?_
    have hlt : a.2.1 < 10 := by omega
    refine ⟨rfl, ⟨hc, hok, ?_, ?_, fun j hj => ?_⟩, (zF.rf.si (by omega)).si (by omega)⟩
    · rw [iv_si (by rw [iv_si hx, if_neg (by omega)]; omega), if_neg (by omega), iv_si hx, if_neg (by omega), e1]
      unfold vApp; rw [if_pos hlt]
    · rw [iv_si (by rw [iv_si hx, if_neg (by omega)]; omega), if_pos ⟨rfl, rfl⟩, iv_si hx, if_neg (by omega), e2]
      unfold vApp; rw [if_pos hlt]; simp
    · rw [iv_si (by rw [iv_si hx, if_neg (by omega)]; omega), if_neg (by omega), iv_si hx]
      unfold vApp at hj ⊢; rw [if_pos hlt] at hj ⊢; simp only at hj ⊢
      by_cases q9 : j = a.2.1
      · rw [if_pos ⟨trivial, q9⟩, if_pos q9]
      · rw [if_neg (fun z => q9 z.2), if_neg q9]; exact e3 j (by omega)
/-- a loop that appends lines of w -/
theorem app_it {w : zV} (hw : ∀ j, -2147483648 ≤ w.2.2 j ∧ w.2.2 j < 2147483648) : ∀ (d i : Nat) (a : zV), okV a → a.1 = 1 → okV (it (fun i u => vApp u (w.2.2 i)) d i a) ∧ (it (fun i u => vApp u (w.2.2 i)) d i a).1 = 1
  | 0, _, _, h, h1 => ⟨h, h1⟩
  | d + 1, i, a, h, h1 => app_it hw d (i + 1) _ (vApp_ok h h1 (hw i)).1 (vApp_ok h h1 (hw i)).2
theorem c_appendAll {d : Nat} {b : zV} (h : VC o σ c a) (h1 : a.1 = 1) (h2 : VC o σ d b) (hd : c + 2 ≤ d ∨ d + 2 ≤ c) : zSpec mi_Content_appendAll 1 o [.ref c, .ref d] σ (fun v s => v = none ∧ VC o s c (vAll a b) ∧ zF σ s c 2) := by
  have hbn := h2.2.1.n
  have hcc := h.1
  have hdd := h2.1
  refine z_spec (by decide +kernel) (Nat.le_of_ble_eq_true rfl) rfl (fun k hs hR hE => ?_)
  refine zx_iconst (pc' := 1) (n := 0) jd_Content_appendAll_0 rfl ?_
  refine jw_istore_n (pc' := 2) (lc' := [(0, _), (1, _), (2, _)]) jd_Content_appendAll_1 rfl (Nat.le_of_ble_eq_true rfl) ⟨rfl, rfl, rfl, trivial⟩ rfl ?_
  have loop : ∀ (m i : Nat) (s : zS) (u : zV), i + m = b.2.1 → VC o s c u → u.1 = 1 → zF σ s c 2 → it (fun i u => vApp u (b.2.2 i)) m i u = vAll a b → jw_X mi_Content_appendAll o k 0 0 2 [(0, .ref c), (1, .ref d), (2, .int (iI i))] [] (mm o s) hs := by
    intro m
    induction m with
    | zero =>
      intro i s u hi hu hu1 hF he
      have hs2 := h2.fr hF (by omega)
      refine jw_iload_n (pc' := 3) jd_Content_appendAll_2 rfl rfl rfl ?_
      refine jw_aload_n (pc' := 4) jd_Content_appendAll_3 rfl rfl rfl ?_
      refine zx_callV0 (pc' := 7) hR (c_length hs2) jm_Content_length jq_416 jc_Content jd_Content_appendAll_4 (mc_Content _ (by assumption)) rfl rfl (Nat.le_of_ble_eq_true rfl) (by omega) (by decide) rfl rfl ?_
      refine zx_icmp_ge (tgt := 25) (pc' := 10) (by first | exact rg_iv _ _ _ | omega) (by first | exact rg_iv _ _ _ | omega) jd_Content_appendAll_7 (by decide) rfl (fun q => ?_) (fun q => ?_)
      rotate_left
      · exfalso; omega
      refine zx_vret hE jd_Content_appendAll_25 rfl ?_
      refine ⟨rfl, ?_, hF⟩
      rw [← he]; exact hu
    | succ m ih =>
      intro i s u hi hu hu1 hF he
      have hs2 := h2.fr hF (by omega)
      refine jw_iload_n (pc' := 3) jd_Content_appendAll_2 rfl rfl rfl ?_
      refine jw_aload_n (pc' := 4) jd_Content_appendAll_3 rfl rfl rfl ?_
      refine zx_callV0 (pc' := 7) hR (c_length hs2) jm_Content_length jq_416 jc_Content jd_Content_appendAll_4 (mc_Content _ (by assumption)) rfl rfl (Nat.le_of_ble_eq_true rfl) (by omega) (by decide) rfl rfl ?_
      refine zx_icmp_ge (tgt := 25) (pc' := 10) (by first | exact rg_iv _ _ _ | omega) (by first | exact rg_iv _ _ _ | omega) jd_Content_appendAll_7 (by decide) rfl (fun q => ?_) (fun q => ?_)
      · exfalso; omega
      refine jw_aload_n (pc' := 11) jd_Content_appendAll_10 rfl rfl rfl ?_
      refine jw_aload_n (pc' := 12) jd_Content_appendAll_11 rfl rfl rfl ?_
      refine jw_iload_n (pc' := 13) jd_Content_appendAll_12 rfl rfl rfl ?_
      refine zx_callV0 (pc' := 16) hR (c_lineAt hs2 i (by omega)) jm_Content_lineAt jq_421 jc_Content jd_Content_appendAll_13 (mc_Content _ (by assumption)) rfl rfl (Nat.le_of_ble_eq_true rfl) (by omega) (by decide) rfl rfl ?_
      refine zx_callV (pc' := 19) hR (c_append hu hu1 (hs2.2.1.2.1 i)) jm_Content_append jq_615 jc_Content jd_Content_appendAll_16 (mc_Content _ (by assumption)) rfl rfl (Nat.le_of_ble_eq_true rfl) (by omega) (by decide) rfl (fun v9 s1 q9 => ?_)
      obtain ⟨rfl, hv, hf⟩ := q9
      refine zx_iinc (pc' := 22) (lc' := [(0, _), (1, _), (2, _)]) jd_Content_appendAll_19 rfl (Nat.le_of_ble_eq_true rfl) ⟨rfl, rfl, rfl, trivial⟩ rfl ?_
      refine jw_goto (tgt := 2) jd_Content_appendAll_22 (by decide) ?_
      exact ih (i + 1) s1 _ (by omega) hv (vApp_ok hu.2.1 hu1 (hs2.2.1.2.1 i)).2 (hF.trans hf (by omega) (by omega)) he
  exact loop b.2.1 0 σ a (by omega) h h1 zF.rf rfl
theorem c_part {w : Nat} {b : zV} (hc : isC o c) (h2 : VC o σ w b) (hd : c + 2 ≤ w ∨ w + 2 ≤ c) (f e : Nat) (hf : f < 100) (he : e < 100) : zSpec mi_Content_becomePart 1 o [.ref c, .ref w, .int (iI f), .int (iI e)] σ (fun v s => v = none ∧ VC o s c (vPart b f e) ∧ zF σ s c 2) := by
  have hww := h2.1
  refine z_spec (by decide +kernel) (Nat.le_of_ble_eq_true rfl) rfl (fun k hs hR hE => ?_)
  refine jw_aload_n (pc' := 1) jd_Content_becomePart_0 rfl rfl rfl ?_
  refine zx_callV (pc' := 4) hR (c_empty hc) jm_Content_becomeEmpty jq_614 jc_Content jd_Content_becomePart_1 (mc_Content _ (by assumption)) rfl rfl (Nat.le_of_ble_eq_true rfl) (by omega) (by decide) rfl (fun v9 s1 q9 => ?_)
  obtain ⟨rfl, hv1, hf1⟩ := q9
  refine jw_iload_n (pc' := 5) jd_Content_becomePart_4 rfl rfl rfl ?_
  refine jw_istore (pc' := 7) (lc' := [(0, _), (1, _), (3, _), (4, _)]) jd_Content_becomePart_5 (Nat.le_of_ble_eq_true rfl) ⟨rfl, rfl, rfl, rfl, trivial⟩ rfl ?_
  have loop : ∀ (m i : Nat) (s : zS) (u : zV), m = e - i → VC o s c u → u.1 = 1 → zF σ s c 2 → i < 200 → it (fun i u => vApp u (b.2.2 i)) m i u = vPart b f e → jw_X mi_Content_becomePart o k 0 0 7 [(0, .ref c), (1, .ref w), (3, .int (iI e)), (4, .int (iI i))] [] (mm o s) hs := by
    intro m
    induction m with
    | zero =>
      intro i s u hi hu hu1 hF h200 he2
      refine jw_iload (pc' := 9) jd_Content_becomePart_7 rfl rfl ?_
      refine jw_iload_n (pc' := 10) jd_Content_becomePart_9 rfl rfl rfl ?_
      refine zx_icmp_ge (tgt := 29) (pc' := 13) (by first | exact rg_iv _ _ _ | omega) (by first | exact rg_iv _ _ _ | omega) jd_Content_becomePart_10 (by decide) rfl (fun q => ?_) (fun q => ?_)
      rotate_left
      · exfalso; omega
      refine zx_vret hE jd_Content_becomePart_29 rfl ?_
      refine ⟨rfl, ?_, hF⟩
      rw [← he2]; exact hu
    | succ m ih =>
      intro i s u hi hu hu1 hF h200 he2
      have hs2 := h2.fr hF (by omega)
      refine jw_iload (pc' := 9) jd_Content_becomePart_7 rfl rfl ?_
      refine jw_iload_n (pc' := 10) jd_Content_becomePart_9 rfl rfl rfl ?_
      refine zx_icmp_ge (tgt := 29) (pc' := 13) (by first | exact rg_iv _ _ _ | omega) (by first | exact rg_iv _ _ _ | omega) jd_Content_becomePart_10 (by decide) rfl (fun q => ?_) (fun q => ?_)
      · exfalso; omega
      refine jw_aload_n (pc' := 14) jd_Content_becomePart_13 rfl rfl rfl ?_
      refine jw_aload_n (pc' := 15) jd_Content_becomePart_14 rfl rfl rfl ?_
      refine jw_iload (pc' := 17) jd_Content_becomePart_15 rfl rfl ?_
      refine zx_callV0 (pc' := 20) hR (c_lineAt hs2 i (by omega)) jm_Content_lineAt jq_421 jc_Content jd_Content_becomePart_17 (mc_Content _ (by assumption)) rfl rfl (Nat.le_of_ble_eq_true rfl) (by omega) (by decide) rfl rfl ?_
      refine zx_callV (pc' := 23) hR (c_append hu hu1 (hs2.2.1.2.1 i)) jm_Content_append jq_615 jc_Content jd_Content_becomePart_20 (mc_Content _ (by assumption)) rfl rfl (Nat.le_of_ble_eq_true rfl) (by omega) (by decide) rfl (fun v9 s2 q9 => ?_)
      obtain ⟨rfl, hv, hf⟩ := q9
      refine zx_iinc (pc' := 26) (lc' := [(0, _), (1, _), (3, _), (4, _)]) jd_Content_becomePart_23 rfl (Nat.le_of_ble_eq_true rfl) ⟨rfl, rfl, rfl, rfl, trivial⟩ rfl ?_
      refine jw_goto (tgt := 7) jd_Content_becomePart_26 (by decide) ?_
      exact ih (i + 1) s2 _ (by omega) hv (vApp_ok hu.2.1 hu1 (hs2.2.1.2.1 i)).2 (hF.trans hf (by omega) (by omega)) (by omega) he2
  exact loop (e - f) f s1 v1 rfl hv1 rfl hf1 (by omega) rfl
theorem c_copyFrom {d : Nat} {b : zV} (hc : isC o c) (h2 : VC o σ d b) (hd : c + 2 ≤ d ∨ d + 2 ≤ c) : zSpec mi_Content_copyFrom 1 o [.ref c, .ref d] σ (fun v s => v = none ∧ VC o s c b ∧ zF σ s c 2) := by
  have hdd := h2.1
  have hbn := h2.2.1.n
  have hbp := h2.2.1.p
  refine z_spec (by decide +kernel) (Nat.le_of_ble_eq_true rfl) rfl (fun k hs hR hE => ?_)
  refine jw_aload_n (pc' := 1) jd_Content_copyFrom_0 rfl rfl rfl ?_
  refine jw_aload_n (pc' := 2) jd_Content_copyFrom_1 rfl rfl rfl ?_
  refine zx_callV0 (pc' := 5) hR (c_length h2) jm_Content_length jq_416 jc_Content jd_Content_copyFrom_2 (mc_Content _ (by assumption)) rfl rfl (Nat.le_of_ble_eq_true rfl) (by omega) (by decide) rfl rfl ?_
  refine zx_bipush (pc' := 7) (n := 10) jd_Content_copyFrom_5 (by decide +kernel) rfl ?_
  refine zx_mmin (pc' := 10) (by first | exact rg_iv _ _ _ | omega) (by first | exact rg_iv _ _ _ | omega) hR jq_417 jd_Content_copyFrom_7 (Nat.le_of_ble_eq_true rfl) (by omega) (Nat.le_refl _) (Nat.le_refl _) rfl ?_
  refine zx_putI (pc' := 13) (kf := 1) jc_Content (by decide) jq_63 jd_Content_copyFrom_10 rfl (by decide +kernel) (mc_Content _ (by assumption)) rfl rfl ?_
  refine jw_aload_n (pc' := 14) jd_Content_copyFrom_13 rfl rfl rfl ?_
  refine jw_aload_n (pc' := 15) jd_Content_copyFrom_14 rfl rfl rfl ?_
  refine zx_callV0 (pc' := 18) hR (c_exists (h2.fr (zF.rf.si (a := c) (n := 2) (b := c) (by omega)) hd.symm)) jm_Content_exists jq_420 jc_Content jd_Content_copyFrom_15 (mc_Content _ (by assumption)) rfl rfl (Nat.le_of_ble_eq_true rfl) (by omega) (by decide) rfl rfl ?_
  refine zx_putZ (pc' := 21) (kf := 2) (by first | exact Or.inl rfl | exact Or.inr rfl | assumption | omega) jc_Content (by decide) jq_64 jd_Content_copyFrom_18 rfl (by decide +kernel) (mc_Content _ (by assumption)) rfl rfl ?_
  refine zx_iconst (pc' := 22) (n := 0) jd_Content_copyFrom_21 rfl ?_
  refine jw_istore_n (pc' := 23) (lc' := [(0, _), (1, _), (2, _)]) jd_Content_copyFrom_22 rfl (Nat.le_of_ble_eq_true rfl) ⟨rfl, rfl, rfl, trivial⟩ rfl ?_
  have hmin : min (b.2.1 : Int) 10 = b.2.1 := by omega
  have loop : ∀ (m i : Nat) (s : zS), i + m = b.2.1 → iv s c 1 = b.2.1 → iv s c 2 = b.1 → (∀ j, j < i → iv s (c + 1) j = b.2.2 j) → zF σ s c 2 → jw_X mi_Content_copyFrom o k 0 0 23 [(0, .ref c), (1, .ref d), (2, .int (iI i))] [] (mm o s) hs := by
    intro m
    induction m with
    | zero =>
      intro i s hi e1 e2 e3 hF
      refine jw_iload_n (pc' := 24) jd_Content_copyFrom_23 rfl rfl rfl ?_
      refine jw_aload_n (pc' := 25) jd_Content_copyFrom_24 rfl rfl rfl ?_
      refine zx_getI (pc' := 28) (kf := 1) jc_Content (by decide) jq_63 jd_Content_copyFrom_25 (mc_Content _ (by assumption)) rfl rfl ?_
      refine zx_icmp_ge (tgt := 48) (pc' := 31) (by first | exact rg_iv _ _ _ | omega) (by first | exact rg_iv _ _ _ | omega) jd_Content_copyFrom_28 (by decide) rfl (fun q => ?_) (fun q => ?_)
      rotate_left
      · exfalso; omega
      refine zx_vret hE jd_Content_copyFrom_48 rfl ?_
      exact ⟨rfl, ⟨hc, h2.2.1, e2, e1, fun j hj => e3 j (by omega)⟩, hF⟩
    | succ m ih =>
      intro i s hi e1 e2 e3 hF
      have hs2 := h2.fr hF (by omega)
      refine jw_iload_n (pc' := 24) jd_Content_copyFrom_23 rfl rfl rfl ?_
      refine jw_aload_n (pc' := 25) jd_Content_copyFrom_24 rfl rfl rfl ?_
      refine zx_getI (pc' := 28) (kf := 1) jc_Content (by decide) jq_63 jd_Content_copyFrom_25 (mc_Content _ (by assumption)) rfl rfl ?_
      refine zx_icmp_ge (tgt := 48) (pc' := 31) (by first | exact rg_iv _ _ _ | omega) (by first | exact rg_iv _ _ _ | omega) jd_Content_copyFrom_28 (by decide) rfl (fun q => ?_) (fun q => ?_)
      · exfalso; omega
      refine jw_aload_n (pc' := 32) jd_Content_copyFrom_31 rfl rfl rfl ?_
      refine jw_get (pc' := 35) (kf := 0) jc_Content (by decide) jq_62 jd_Content_copyFrom_32 (mc_Content _ (by assumption)) rfl rfl ?_
      refine jw_iload_n (pc' := 36) jd_Content_copyFrom_35 rfl rfl rfl ?_
      refine jw_aload_n (pc' := 37) jd_Content_copyFrom_36 rfl rfl rfl ?_
      refine jw_iload_n (pc' := 38) jd_Content_copyFrom_37 rfl rfl rfl ?_
      refine zx_callV0 (pc' := 41) hR (c_lineAt hs2 i (by omega)) jm_Content_lineAt jq_421 jc_Content jd_Content_copyFrom_38 (mc_Content _ (by assumption)) rfl rfl (Nat.le_of_ble_eq_true rfl) (by omega) (by decide) rfl rfl ?_
      refine zx_iast (pc' := 42) jd_Content_copyFrom_41 (ml_Content_lines _ (by assumption)) rfl (by omega) (Nat.le_of_ble_eq_true rfl) rfl ?_
      refine zx_iinc (pc' := 45) (lc' := [(0, _), (1, _), (2, _)]) jd_Content_copyFrom_42 rfl (Nat.le_of_ble_eq_true rfl) ⟨rfl, rfl, rfl, trivial⟩ rfl ?_
      refine jw_goto (tgt := 23) jd_Content_copyFrom_45 (by decide) ?_
      refine ih (i + 1) _ (by omega) ?_ ?_ (fun j hj => ?_) (hF.si (by omega))
      · rw [iv_si (hs2.2.1.2.1 i), if_neg (by omega)]; exact e1
      · rw [iv_si (hs2.2.1.2.1 i), if_neg (by omega)]; exact e2
      · rw [iv_si (hs2.2.1.2.1 i)]
        by_cases q9 : j = i
        · rw [if_pos ⟨rfl, q9⟩, q9]
        · rw [if_neg (fun z => q9 z.2)]; exact e3 j (by omega)
  refine loop b.2.1 0 _ (by omega) ?_ ?_ (fun j hj => absurd hj (by omega)) ((zF.rf.si (by omega)).si (by omega))
  · rw [iv_si (by omega), if_neg (by omega), iv_si (by omega), if_pos ⟨rfl, rfl⟩]; exact hmin
  · rw [iv_si (by omega), if_pos ⟨rfl, rfl⟩]
theorem c_sameAs {d : Nat} {b : zV} (h : VC o σ c a) (h2 : VC o σ d b) : zRo mi_Content_sameAs 1 o [.ref c, .ref d] σ (some (.int (iI (eqV a b)))) := by
  have h0 := h
  obtain ⟨hc, hk, e1, e2, e3⟩ := h0
  have hdd := h2.1
  have hbn := h2.2.1.n
  have hbp := h2.2.1.p
  have han := hk.n
  have hap := hk.p
  have hno : ¬ a = b → iI 0 = iI (eqV a b) := fun z => by rw [eqV_f z]
  refine z_spec (by decide +kernel) (Nat.le_of_ble_eq_true rfl) rfl (fun k hs hR hE => ?_)
  refine jw_aload_n (pc' := 1) jd_Content_sameAs_0 rfl rfl rfl ?_
  refine zx_getI (pc' := 4) (kf := 2) jc_Content (by decide) jq_64 jd_Content_sameAs_1 (mc_Content _ (by assumption)) rfl rfl ?_
  refine jw_aload_n (pc' := 5) jd_Content_sameAs_4 rfl rfl rfl ?_
  refine zx_callV0 (pc' := 8) hR (c_exists h2) jm_Content_exists jq_420 jc_Content jd_Content_sameAs_5 (mc_Content _ (by assumption)) rfl rfl (Nat.le_of_ble_eq_true rfl) (by omega) (by decide) rfl rfl ?_
  refine zx_icmp_ne (tgt := 22) (pc' := 11) (by first | exact rg_iv _ _ _ | omega) (by first | exact rg_iv _ _ _ | omega) jd_Content_sameAs_8 (by decide) rfl (fun q => ?_) (fun q => ?_)
  · refine zx_iconst (pc' := 23) (n := 0) jd_Content_sameAs_22 rfl ?_
    refine zx_zret (by first | exact Or.inl rfl | exact Or.inr rfl | assumption | omega) hE jd_Content_sameAs_23 rfl ?_
    exact ⟨by rw [hno (fun z => q (by rw [e1, z]))], rfl⟩
  refine jw_aload_n (pc' := 12) jd_Content_sameAs_11 rfl rfl rfl ?_
  refine zx_getI (pc' := 15) (kf := 1) jc_Content (by decide) jq_63 jd_Content_sameAs_12 (mc_Content _ (by assumption)) rfl rfl ?_
  refine jw_aload_n (pc' := 16) jd_Content_sameAs_15 rfl rfl rfl ?_
  refine zx_callV0 (pc' := 19) hR (c_length h2) jm_Content_length jq_416 jc_Content jd_Content_sameAs_16 (mc_Content _ (by assumption)) rfl rfl (Nat.le_of_ble_eq_true rfl) (by omega) (by decide) rfl rfl ?_
  refine zx_icmp_eq (tgt := 24) (pc' := 22) (by first | exact rg_iv _ _ _ | omega) (by first | exact rg_iv _ _ _ | omega) jd_Content_sameAs_19 (by decide) rfl (fun q2 => ?_) (fun q2 => ?_)
  rotate_left
  · refine zx_iconst (pc' := 23) (n := 0) jd_Content_sameAs_22 rfl ?_
    refine zx_zret (by first | exact Or.inl rfl | exact Or.inr rfl | assumption | omega) hE jd_Content_sameAs_23 rfl ?_
    exact ⟨by rw [hno (fun z => q2 (by rw [e2, z]))], rfl⟩
  refine zx_iconst (pc' := 25) (n := 0) jd_Content_sameAs_24 rfl ?_
  refine jw_istore_n (pc' := 26) (lc' := [(0, _), (1, _), (2, _)]) jd_Content_sameAs_25 rfl (Nat.le_of_ble_eq_true rfl) ⟨rfl, rfl, rfl, trivial⟩ rfl ?_
  have loop : ∀ (m i : Nat), i + m = a.2.1 → (∀ j, j < i → a.2.2 j = b.2.2 j) → jw_X mi_Content_sameAs o k 0 0 26 [(0, .ref c), (1, .ref d), (2, .int (iI i))] [] (mm o σ) hs := by
    intro m
    induction m with
    | zero =>
      intro i hi hj
      refine jw_iload_n (pc' := 27) jd_Content_sameAs_26 rfl rfl rfl ?_
      refine jw_aload_n (pc' := 28) jd_Content_sameAs_27 rfl rfl rfl ?_
      refine zx_getI (pc' := 31) (kf := 1) jc_Content (by decide) jq_63 jd_Content_sameAs_28 (mc_Content _ (by assumption)) rfl rfl ?_
      refine zx_icmp_ge (tgt := 56) (pc' := 34) (by first | exact rg_iv _ _ _ | omega) (by first | exact rg_iv _ _ _ | omega) jd_Content_sameAs_31 (by decide) rfl (fun q3 => ?_) (fun q3 => ?_)
      rotate_left
      · exfalso; omega
      refine zx_iconst (pc' := 57) (n := 1) jd_Content_sameAs_56 rfl ?_
      refine zx_zret (by first | exact Or.inl rfl | exact Or.inr rfl | assumption | omega) hE jd_Content_sameAs_57 rfl ?_
      have e : a = b := by
        obtain ⟨a1, a2, a3⟩ := a
        obtain ⟨b1, b2, b3⟩ := b
        have z1 : ∀ j, a2 ≤ j → a3 j = -1 := hk.2.2
        have z2 : ∀ j, b2 ≤ j → b3 j = -1 := h2.2.1.2.2
        simp only at e1 e2 q q2 hi hj
        have g1 : a1 = b1 := by omega
        have g2 : a2 = b2 := by omega
        have g3 : a3 = b3 := by
          funext j
          by_cases q9 : j < a2
          · exact hj j (by omega)
          · rw [z1 j (by omega), z2 j (by omega)]
        rw [g1, g2, g3]
      exact ⟨by rw [eqV_t e], rfl⟩
    | succ m ih =>
      intro i hi hj
      refine jw_iload_n (pc' := 27) jd_Content_sameAs_26 rfl rfl rfl ?_
      refine jw_aload_n (pc' := 28) jd_Content_sameAs_27 rfl rfl rfl ?_
      refine zx_getI (pc' := 31) (kf := 1) jc_Content (by decide) jq_63 jd_Content_sameAs_28 (mc_Content _ (by assumption)) rfl rfl ?_
      refine zx_icmp_ge (tgt := 56) (pc' := 34) (by first | exact rg_iv _ _ _ | omega) (by first | exact rg_iv _ _ _ | omega) jd_Content_sameAs_31 (by decide) rfl (fun q3 => ?_) (fun q3 => ?_)
      · exfalso; omega
      refine jw_aload_n (pc' := 35) jd_Content_sameAs_34 rfl rfl rfl ?_
      refine jw_get (pc' := 38) (kf := 0) jc_Content (by decide) jq_62 jd_Content_sameAs_35 (mc_Content _ (by assumption)) rfl rfl ?_
      refine jw_iload_n (pc' := 39) jd_Content_sameAs_38 rfl rfl rfl ?_
      refine zx_iald (pc' := 40) jd_Content_sameAs_39 (ml_Content_lines _ (by assumption)) rfl (by omega) (Nat.le_of_ble_eq_true rfl) rfl ?_
      refine jw_aload_n (pc' := 41) jd_Content_sameAs_40 rfl rfl rfl ?_
      refine jw_iload_n (pc' := 42) jd_Content_sameAs_41 rfl rfl rfl ?_
      refine zx_callV0 (pc' := 45) hR (c_lineAt h2 i (by omega)) jm_Content_lineAt jq_421 jc_Content jd_Content_sameAs_42 (mc_Content _ (by assumption)) rfl rfl (Nat.le_of_ble_eq_true rfl) (by omega) (by decide) rfl rfl ?_
      have e9 := e3 i (by omega)
      have r9 := h2.2.1.2.1 i
      refine zx_icmp_eq (tgt := 50) (pc' := 48) (by first | exact rg_iv _ _ _ | omega) (by first | exact rg_iv _ _ _ | omega) jd_Content_sameAs_45 (by decide) rfl (fun q4 => ?_) (fun q4 => ?_)
      · refine zx_iinc (pc' := 53) (lc' := [(0, _), (1, _), (2, _)]) jd_Content_sameAs_50 rfl (Nat.le_of_ble_eq_true rfl) ⟨rfl, rfl, rfl, trivial⟩ rfl ?_
        refine jw_goto (tgt := 26) jd_Content_sameAs_53 (by decide) ?_
        exact ih (i + 1) (by omega) (fun j hj2 => by
          by_cases q9 : j = i
          · rw [q9, ← e9]; exact q4
          · exact hj j (by omega))
      · refine zx_iconst (pc' := 49) (n := 0) jd_Content_sameAs_48 rfl ?_
        refine zx_zret (by first | exact Or.inl rfl | exact Or.inr rfl | assumption | omega) hE jd_Content_sameAs_49 rfl ?_
        exact ⟨by rw [hno (fun z => q4 (by rw [e9, z]))], rfl⟩
  exact loop a.2.1 0 (by omega) (fun j hj => absurd hj (by omega))
theorem c_insert {x : Int} (h : VC o σ c a) (hn : a.2.1 < 10) (p : Nat) (hp : p ≤ a.2.1) : zSpec mi_Content_insert 0 o [.ref c, .int (iI p), .int (iI x)] σ (fun v s => v = none ∧ (∃ b, VC o s c b ∧ b.1 = 1 ∧ b.2.1 = a.2.1 + 1) ∧ zF σ s c 2) := by
  obtain ⟨hc, hk, e1, e2, e3⟩ := h
  refine z_spec (by decide +kernel) (Nat.le_of_ble_eq_true rfl) rfl (fun k hs hR hE => ?_)
  refine jw_iload_n (pc' := 1) jd_Content_insert_0 rfl rfl rfl ?_
  refine zx_if_lt (tgt := 21) (pc' := 4) (by first | exact rg_iv _ _ _ | omega) jd_Content_insert_1 (by decide) rfl (fun q1 => ?_) (fun q1 => ?_)
  · exfalso; omega
  refine jw_iload_n (pc' := 5) jd_Content_insert_4 rfl rfl rfl ?_
  refine jw_aload_n (pc' := 6) jd_Content_insert_5 rfl rfl rfl ?_
  refine zx_getI (pc' := 9) (kf := 1) jc_Content (by decide) jq_63 jd_Content_insert_6 (mc_Content _ (by assumption)) rfl rfl ?_
  refine zx_icmp_gt (tgt := 21) (pc' := 12) (by first | exact rg_iv _ _ _ | omega) (by first | exact rg_iv _ _ _ | omega) jd_Content_insert_9 (by decide) rfl (fun q2 => ?_) (fun q2 => ?_)
  · exfalso; omega
  refine jw_aload_n (pc' := 13) jd_Content_insert_12 rfl rfl rfl ?_
  refine zx_getI (pc' := 16) (kf := 1) jc_Content (by decide) jq_63 jd_Content_insert_13 (mc_Content _ (by assumption)) rfl rfl ?_
  refine zx_bipush (pc' := 18) (n := 10) jd_Content_insert_16 (by decide +kernel) rfl ?_
  refine zx_icmp_lt (tgt := 22) (pc' := 21) (by first | exact rg_iv _ _ _ | omega) (by first | exact rg_iv _ _ _ | omega) jd_Content_insert_18 (by decide) rfl (fun q3 => ?_) (fun q3 => ?_)
  rotate_left
  · exfalso; omega
  refine jw_aload_n (pc' := 23) jd_Content_insert_22 rfl rfl rfl ?_
  refine zx_getI (pc' := 26) (kf := 1) jc_Content (by decide) jq_63 jd_Content_insert_23 (mc_Content _ (by assumption)) rfl rfl ?_
  refine jw_istore_n (pc' := 27) (lc' := [(0, _), (1, _), (2, _), (3, _)]) jd_Content_insert_26 rfl (Nat.le_of_ble_eq_true rfl) ⟨rfl, rfl, rfl, rfl, trivial⟩ rfl ?_
  have loop : ∀ (m i : Nat) (s : zS), i = p + m → i < 10 → iv s c 1 = a.2.1 → zF σ s c 2 → jw_X mi_Content_insert o k 0 0 27 [(0, .ref c), (1, .int (iI p)), (2, .int (iI x)), (3, .int (iI i))] [] (mm o s) hs := by
    intro m
    induction m with
    | zero =>
      intro i s hi h10 e hF
      refine jw_iload_n (pc' := 28) jd_Content_insert_27 rfl rfl rfl ?_
      refine jw_iload_n (pc' := 29) jd_Content_insert_28 rfl rfl rfl ?_
      refine zx_icmp_le (tgt := 52) (pc' := 32) (by first | exact rg_iv _ _ _ | omega) (by first | exact rg_iv _ _ _ | omega) jd_Content_insert_29 (by decide) rfl (fun q => ?_) (fun q => ?_)
      rotate_left
      · exfalso; omega
      refine jw_aload_n (pc' := 53) jd_Content_insert_52 rfl rfl rfl ?_
      refine jw_get (pc' := 56) (kf := 0) jc_Content (by decide) jq_62 jd_Content_insert_53 (mc_Content _ (by assumption)) rfl rfl ?_
      refine jw_iload_n (pc' := 57) jd_Content_insert_56 rfl rfl rfl ?_
      refine jw_iload_n (pc' := 58) jd_Content_insert_57 rfl rfl rfl ?_
      refine zx_iast (pc' := 59) jd_Content_insert_58 (ml_Content_lines _ (by assumption)) rfl (by omega) (Nat.le_of_ble_eq_true rfl) rfl ?_
      refine jw_aload_n (pc' := 60) jd_Content_insert_59 rfl rfl rfl ?_
      refine jw_dup (pc' := 61) jd_Content_insert_60 rfl rfl ?_
      refine zx_getI (pc' := 64) (kf := 1) jc_Content (by decide) jq_63 jd_Content_insert_61 (mc_Content _ (by assumption)) rfl rfl ?_
      refine zx_iconst (pc' := 65) (n := 1) jd_Content_insert_64 rfl ?_
      refine zx_iadd (pc' := 66) jd_Content_insert_65 rfl ?_
      refine zx_putI (pc' := 69) (kf := 1) jc_Content (by decide) jq_63 jd_Content_insert_66 rfl (by decide +kernel) (mc_Content _ (by assumption)) rfl rfl ?_
      refine jw_aload_n (pc' := 70) jd_Content_insert_69 rfl rfl rfl ?_
      refine zx_iconst (pc' := 71) (n := 1) jd_Content_insert_70 rfl ?_
      refine zx_putZ (pc' := 74) (kf := 2) (by first | exact Or.inl rfl | exact Or.inr rfl | assumption | omega) jc_Content (by decide) jq_64 jd_Content_insert_71 rfl (by decide +kernel) (mc_Content _ (by assumption)) rfl rfl ?_
      refine zx_vret hE jd_Content_insert_74 rfl ?_
      have hF1 : zF σ (si s (c + 1) p x) c 2 := hF.si (by omega)
      have f1 : iv (si s (c + 1) p x) c 1 = a.2.1 := (iv_cell (si_ne (by omega)) _).trans e
      refine ⟨rfl, ⟨_, VC.mk hc (Or.inr ⟨?_, ?_⟩), ?_, ?_⟩, (hF1.si (by omega)).si (by omega)⟩
      · rw [iv_si (by omega), if_pos ⟨rfl, rfl⟩]
      · rw [iv_si (by omega), if_neg (by omega), iv_si (by omega), if_pos ⟨rfl, rfl⟩, f1]; omega
      · show iv _ c 2 = 1
        rw [iv_si (by omega), if_pos ⟨rfl, rfl⟩]
      · show (iv _ c 1).toNat = _
        rw [iv_si (by omega), if_neg (by omega), iv_si (by omega), if_pos ⟨rfl, rfl⟩, f1]; omega
    | succ m ih =>
      intro i s hi h10 e hF
      refine jw_iload_n (pc' := 28) jd_Content_insert_27 rfl rfl rfl ?_
      refine jw_iload_n (pc' := 29) jd_Content_insert_28 rfl rfl rfl ?_
      refine zx_icmp_le (tgt := 52) (pc' := 32) (by first | exact rg_iv _ _ _ | omega) (by first | exact rg_iv _ _ _ | omega) jd_Content_insert_29 (by decide) rfl (fun q => ?_) (fun q => ?_)
      · exfalso; omega
      refine jw_aload_n (pc' := 33) jd_Content_insert_32 rfl rfl rfl ?_
      refine jw_get (pc' := 36) (kf := 0) jc_Content (by decide) jq_62 jd_Content_insert_33 (mc_Content _ (by assumption)) rfl rfl ?_
      refine jw_iload_n (pc' := 37) jd_Content_insert_36 rfl rfl rfl ?_
      refine jw_aload_n (pc' := 38) jd_Content_insert_37 rfl rfl rfl ?_
      refine jw_get (pc' := 41) (kf := 0) jc_Content (by decide) jq_62 jd_Content_insert_38 (mc_Content _ (by assumption)) rfl rfl ?_
      refine jw_iload_n (pc' := 42) jd_Content_insert_41 rfl rfl rfl ?_
      refine zx_iconst (pc' := 43) (n := 1) jd_Content_insert_42 rfl ?_
      refine zx_isub (pc' := 44) jd_Content_insert_43 rfl ?_
      refine zx_iald (pc' := 45) (j := i - 1) jd_Content_insert_44 (ml_Content_lines _ (by assumption)) (by omega) (by omega) (Nat.le_of_ble_eq_true rfl) rfl ?_
      refine zx_iast (pc' := 46) jd_Content_insert_45 (ml_Content_lines _ (by assumption)) rfl (by omega) (Nat.le_of_ble_eq_true rfl) rfl ?_
      refine zx_iinc (pc' := 49) (lc' := [(0, _), (1, _), (2, _), (3, _)]) jd_Content_insert_46 rfl (Nat.le_of_ble_eq_true rfl) ⟨rfl, rfl, rfl, rfl, trivial⟩ rfl ?_
      refine jw_goto (tgt := 27) jd_Content_insert_49 (by decide) ?_
      have e9 : (i : Int) + -1 = ((i - 1 : Nat) : Int) := by omega
      rw [e9]
      exact ih (i - 1) _ (by omega) (by omega) ((iv_cell (si_ne (by omega)) _).trans e) (hF.si (by omega))
  rw [e2]
  exact loop (a.2.1 - p) a.2.1 σ (by omega) hn e2 zF.rf
end
end
section
theorem jd_Tree_fileAt_0 : decode mi_Tree_fileAt.2.1 0 = .ok (.iload_n 1, 1) := by decide +kernel
theorem jd_Tree_fileAt_1 : decode mi_Tree_fileAt.2.1 1 = .ok (.ifCond .lt 18, 3) := by decide +kernel
theorem jd_Tree_fileAt_4 : decode mi_Tree_fileAt.2.1 4 = .ok (.iload_n 1, 1) := by decide +kernel
theorem jd_Tree_fileAt_5 : decode mi_Tree_fileAt.2.1 5 = .ok (.bipush 12, 2) := by decide +kernel
theorem jd_Tree_fileAt_7 : decode mi_Tree_fileAt.2.1 7 = .ok (.if_icmp .ge 12, 3) := by decide +kernel
theorem jd_Tree_fileAt_10 : decode mi_Tree_fileAt.2.1 10 = .ok (.aload_n 0, 1) := by decide +kernel
theorem jd_Tree_fileAt_11 : decode mi_Tree_fileAt.2.1 11 = .ok (.getfield 11, 3) := by decide +kernel
theorem jd_Tree_fileAt_14 : decode mi_Tree_fileAt.2.1 14 = .ok (.iload_n 1, 1) := by decide +kernel
theorem jd_Tree_fileAt_15 : decode mi_Tree_fileAt.2.1 15 = .ok (.aaload, 1) := by decide +kernel
theorem jd_Tree_fileAt_16 : decode mi_Tree_fileAt.2.1 16 = .ok (.goto 7, 3) := by decide +kernel
theorem jd_Tree_fileAt_19 : decode mi_Tree_fileAt.2.1 19 = .ok (.aload_n 0, 1) := by decide +kernel
theorem jd_Tree_fileAt_20 : decode mi_Tree_fileAt.2.1 20 = .ok (.getfield 18, 3) := by decide +kernel
theorem jd_Tree_fileAt_23 : decode mi_Tree_fileAt.2.1 23 = .ok (.areturn, 1) := by decide +kernel
theorem jd_Tree_has_0 : decode mi_Tree_has.2.1 0 = .ok (.aload_n 0, 1) := by decide +kernel
theorem jd_Tree_has_1 : decode mi_Tree_has.2.1 1 = .ok (.iload_n 1, 1) := by decide +kernel
theorem jd_Tree_has_2 : decode mi_Tree_has.2.1 2 = .ok (.invokevirtual 22, 3) := by decide +kernel
theorem jd_Tree_has_5 : decode mi_Tree_has.2.1 5 = .ok (.invokevirtual 26, 3) := by decide +kernel
theorem jd_Tree_has_8 : decode mi_Tree_has.2.1 8 = .ok (.ireturn, 1) := by decide +kernel
theorem jd_Tree_countFiles_0 : decode mi_Tree_countFiles.2.1 0 = .ok (.iconst 0, 1) := by decide +kernel
theorem jd_Tree_countFiles_1 : decode mi_Tree_countFiles.2.1 1 = .ok (.istore_n 1, 1) := by decide +kernel
theorem jd_Tree_countFiles_2 : decode mi_Tree_countFiles.2.1 2 = .ok (.iconst 0, 1) := by decide +kernel
theorem jd_Tree_countFiles_3 : decode mi_Tree_countFiles.2.1 3 = .ok (.istore_n 2, 1) := by decide +kernel
theorem jd_Tree_countFiles_4 : decode mi_Tree_countFiles.2.1 4 = .ok (.iload_n 2, 1) := by decide +kernel
theorem jd_Tree_countFiles_5 : decode mi_Tree_countFiles.2.1 5 = .ok (.bipush 12, 2) := by decide +kernel
theorem jd_Tree_countFiles_7 : decode mi_Tree_countFiles.2.1 7 = .ok (.if_icmp .ge 20, 3) := by decide +kernel
theorem jd_Tree_countFiles_10 : decode mi_Tree_countFiles.2.1 10 = .ok (.aload_n 0, 1) := by decide +kernel
theorem jd_Tree_countFiles_11 : decode mi_Tree_countFiles.2.1 11 = .ok (.iload_n 2, 1) := by decide +kernel
theorem jd_Tree_countFiles_12 : decode mi_Tree_countFiles.2.1 12 = .ok (.invokevirtual 30, 3) := by decide +kernel
theorem jd_Tree_countFiles_15 : decode mi_Tree_countFiles.2.1 15 = .ok (.ifCond .eq 6, 3) := by decide +kernel
theorem jd_Tree_countFiles_18 : decode mi_Tree_countFiles.2.1 18 = .ok (.iinc 1 1, 3) := by decide +kernel
theorem jd_Tree_countFiles_21 : decode mi_Tree_countFiles.2.1 21 = .ok (.iinc 2 1, 3) := by decide +kernel
theorem jd_Tree_countFiles_24 : decode mi_Tree_countFiles.2.1 24 = .ok (.goto (-20), 3) := by decide +kernel
theorem jd_Tree_countFiles_27 : decode mi_Tree_countFiles.2.1 27 = .ok (.iload_n 1, 1) := by decide +kernel
theorem jd_Tree_countFiles_28 : decode mi_Tree_countFiles.2.1 28 = .ok (.ireturn, 1) := by decide +kernel
theorem jd_Tree_clear_0 : decode mi_Tree_clear.2.1 0 = .ok (.iconst 0, 1) := by decide +kernel
theorem jd_Tree_clear_1 : decode mi_Tree_clear.2.1 1 = .ok (.istore_n 1, 1) := by decide +kernel
theorem jd_Tree_clear_2 : decode mi_Tree_clear.2.1 2 = .ok (.iload_n 1, 1) := by decide +kernel
theorem jd_Tree_clear_3 : decode mi_Tree_clear.2.1 3 = .ok (.bipush 12, 2) := by decide +kernel
theorem jd_Tree_clear_5 : decode mi_Tree_clear.2.1 5 = .ok (.if_icmp .ge 18, 3) := by decide +kernel
theorem jd_Tree_clear_8 : decode mi_Tree_clear.2.1 8 = .ok (.aload_n 0, 1) := by decide +kernel
theorem jd_Tree_clear_9 : decode mi_Tree_clear.2.1 9 = .ok (.getfield 11, 3) := by decide +kernel
theorem jd_Tree_clear_12 : decode mi_Tree_clear.2.1 12 = .ok (.iload_n 1, 1) := by decide +kernel
theorem jd_Tree_clear_13 : decode mi_Tree_clear.2.1 13 = .ok (.aaload, 1) := by decide +kernel
theorem jd_Tree_clear_14 : decode mi_Tree_clear.2.1 14 = .ok (.invokevirtual 34, 3) := by decide +kernel
theorem jd_Tree_clear_17 : decode mi_Tree_clear.2.1 17 = .ok (.iinc 1 1, 3) := by decide +kernel
theorem jd_Tree_clear_20 : decode mi_Tree_clear.2.1 20 = .ok (.goto (-18), 3) := by decide +kernel
theorem jd_Tree_clear_23 : decode mi_Tree_clear.2.1 23 = .ok (.return_, 1) := by decide +kernel
theorem jd_Tree_copyFrom_0 : decode mi_Tree_copyFrom.2.1 0 = .ok (.iconst 0, 1) := by decide +kernel
theorem jd_Tree_copyFrom_1 : decode mi_Tree_copyFrom.2.1 1 = .ok (.istore_n 2, 1) := by decide +kernel
theorem jd_Tree_copyFrom_2 : decode mi_Tree_copyFrom.2.1 2 = .ok (.iload_n 2, 1) := by decide +kernel
theorem jd_Tree_copyFrom_3 : decode mi_Tree_copyFrom.2.1 3 = .ok (.bipush 12, 2) := by decide +kernel
theorem jd_Tree_copyFrom_5 : decode mi_Tree_copyFrom.2.1 5 = .ok (.if_icmp .ge 23, 3) := by decide +kernel
theorem jd_Tree_copyFrom_8 : decode mi_Tree_copyFrom.2.1 8 = .ok (.aload_n 0, 1) := by decide +kernel
theorem jd_Tree_copyFrom_9 : decode mi_Tree_copyFrom.2.1 9 = .ok (.getfield 11, 3) := by decide +kernel
theorem jd_Tree_copyFrom_12 : decode mi_Tree_copyFrom.2.1 12 = .ok (.iload_n 2, 1) := by decide +kernel
theorem jd_Tree_copyFrom_13 : decode mi_Tree_copyFrom.2.1 13 = .ok (.aaload, 1) := by decide +kernel
theorem jd_Tree_copyFrom_14 : decode mi_Tree_copyFrom.2.1 14 = .ok (.aload_n 1, 1) := by decide +kernel
theorem jd_Tree_copyFrom_15 : decode mi_Tree_copyFrom.2.1 15 = .ok (.iload_n 2, 1) := by decide +kernel
theorem jd_Tree_copyFrom_16 : decode mi_Tree_copyFrom.2.1 16 = .ok (.invokevirtual 22, 3) := by decide +kernel
theorem jd_Tree_copyFrom_19 : decode mi_Tree_copyFrom.2.1 19 = .ok (.invokevirtual 37, 3) := by decide +kernel
theorem jd_Tree_copyFrom_22 : decode mi_Tree_copyFrom.2.1 22 = .ok (.iinc 2 1, 3) := by decide +kernel
theorem jd_Tree_copyFrom_25 : decode mi_Tree_copyFrom.2.1 25 = .ok (.goto (-23), 3) := by decide +kernel
theorem jd_Tree_copyFrom_28 : decode mi_Tree_copyFrom.2.1 28 = .ok (.return_, 1) := by decide +kernel
theorem jd_Tree_sameAs_0 : decode mi_Tree_sameAs.2.1 0 = .ok (.iconst 0, 1) := by decide +kernel
theorem jd_Tree_sameAs_1 : decode mi_Tree_sameAs.2.1 1 = .ok (.istore_n 2, 1) := by decide +kernel
theorem jd_Tree_sameAs_2 : decode mi_Tree_sameAs.2.1 2 = .ok (.iload_n 2, 1) := by decide +kernel
theorem jd_Tree_sameAs_3 : decode mi_Tree_sameAs.2.1 3 = .ok (.bipush 12, 2) := by decide +kernel
theorem jd_Tree_sameAs_5 : decode mi_Tree_sameAs.2.1 5 = .ok (.if_icmp .ge 28, 3) := by decide +kernel
theorem jd_Tree_sameAs_8 : decode mi_Tree_sameAs.2.1 8 = .ok (.aload_n 0, 1) := by decide +kernel
theorem jd_Tree_sameAs_9 : decode mi_Tree_sameAs.2.1 9 = .ok (.getfield 11, 3) := by decide +kernel
theorem jd_Tree_sameAs_12 : decode mi_Tree_sameAs.2.1 12 = .ok (.iload_n 2, 1) := by decide +kernel
theorem jd_Tree_sameAs_13 : decode mi_Tree_sameAs.2.1 13 = .ok (.aaload, 1) := by decide +kernel
theorem jd_Tree_sameAs_14 : decode mi_Tree_sameAs.2.1 14 = .ok (.aload_n 1, 1) := by decide +kernel
theorem jd_Tree_sameAs_15 : decode mi_Tree_sameAs.2.1 15 = .ok (.iload_n 2, 1) := by decide +kernel
theorem jd_Tree_sameAs_16 : decode mi_Tree_sameAs.2.1 16 = .ok (.invokevirtual 22, 3) := by decide +kernel
theorem jd_Tree_sameAs_19 : decode mi_Tree_sameAs.2.1 19 = .ok (.invokevirtual 41, 3) := by decide +kernel
theorem jd_Tree_sameAs_22 : decode mi_Tree_sameAs.2.1 22 = .ok (.ifCond .ne 5, 3) := by decide +kernel
theorem jd_Tree_sameAs_25 : decode mi_Tree_sameAs.2.1 25 = .ok (.iconst 0, 1) := by decide +kernel
theorem jd_Tree_sameAs_26 : decode mi_Tree_sameAs.2.1 26 = .ok (.ireturn, 1) := by decide +kernel
theorem jd_Tree_sameAs_27 : decode mi_Tree_sameAs.2.1 27 = .ok (.iinc 2 1, 3) := by decide +kernel
theorem jd_Tree_sameAs_30 : decode mi_Tree_sameAs.2.1 30 = .ok (.goto (-28), 3) := by decide +kernel
theorem jd_Tree_sameAs_33 : decode mi_Tree_sameAs.2.1 33 = .ok (.iconst 1, 1) := by decide +kernel
theorem jd_Tree_sameAs_34 : decode mi_Tree_sameAs.2.1 34 = .ok (.ireturn, 1) := by decide +kernel
theorem jd_Arrays_fill_0 : decode mi_Arrays_fill.2.1 0 = .ok (.iconst 0, 1) := by decide +kernel
theorem jd_Arrays_fill_1 : decode mi_Arrays_fill.2.1 1 = .ok (.istore_n 2, 1) := by decide +kernel
theorem jd_Arrays_fill_2 : decode mi_Arrays_fill.2.1 2 = .ok (.aload_n 0, 1) := by decide +kernel
theorem jd_Arrays_fill_3 : decode mi_Arrays_fill.2.1 3 = .ok (.arraylength, 1) := by decide +kernel
theorem jd_Arrays_fill_4 : decode mi_Arrays_fill.2.1 4 = .ok (.istore_n 3, 1) := by decide +kernel
theorem jd_Arrays_fill_5 : decode mi_Arrays_fill.2.1 5 = .ok (.iload_n 2, 1) := by decide +kernel
theorem jd_Arrays_fill_6 : decode mi_Arrays_fill.2.1 6 = .ok (.iload_n 3, 1) := by decide +kernel
theorem jd_Arrays_fill_7 : decode mi_Arrays_fill.2.1 7 = .ok (.if_icmp .ge 13, 3) := by decide +kernel
theorem jd_Arrays_fill_10 : decode mi_Arrays_fill.2.1 10 = .ok (.aload_n 0, 1) := by decide +kernel
theorem jd_Arrays_fill_11 : decode mi_Arrays_fill.2.1 11 = .ok (.iload_n 2, 1) := by decide +kernel
theorem jd_Arrays_fill_12 : decode mi_Arrays_fill.2.1 12 = .ok (.iload_n 1, 1) := by decide +kernel
theorem jd_Arrays_fill_13 : decode mi_Arrays_fill.2.1 13 = .ok (.iastore, 1) := by decide +kernel
theorem jd_Arrays_fill_14 : decode mi_Arrays_fill.2.1 14 = .ok (.iinc 2 1, 3) := by decide +kernel
theorem jd_Arrays_fill_17 : decode mi_Arrays_fill.2.1 17 = .ok (.goto (-12), 3) := by decide +kernel
theorem jd_Arrays_fill_20 : decode mi_Arrays_fill.2.1 20 = .ok (.return_, 1) := by decide +kernel
/-! trees: TC o σ t A: the tree at t has the contents A -/
abbrev zT : Type := Nat → zV
def TC (o : jw_O) (σ : zS) (t : Nat) (A : zT) : Prop := isT o t ∧ ∀ p, p < 12 → VC o σ (fA t p) (A p)
theorem TC.fr {o : jw_O} {σ σ' : zS} {t b m : Nat} {A : zT} (h : TC o σ t A) (f : zF σ σ' b m) (hd : t + 28 ≤ b ∨ b + m ≤ t) : TC o σ' t A := ⟨h.1, fun p hp => (h.2 p hp).fr f (by unfold fA; omega)⟩
def nF (A : zT) : Int := it (fun p u => if (A p).1 = 0 then u else u + 1) 12 0 0
theorem it_rng {f : Nat → Int → Int} (hf : ∀ i u, u ≤ f i u ∧ f i u ≤ u + 1) : ∀ (d i : Nat) (u : Int), u ≤ it f d i u ∧ it f d i u ≤ u + d
  | 0, _, u => by simp [it]
  | d + 1, i, u => by
    have h1 := it_rng hf d (i + 1) (f i u)
    have h2 := hf i u
    unfold it
    omega
theorem nF_rng (A : zT) : 0 ≤ nF A ∧ nF A ≤ 12 := by
  have h := it_rng (f := fun p u => if (A p).1 = 0 then u else u + 1) (fun i u => by split <;> omega) 12 0 0
  unfold nF
  omega
noncomputable def eqT (A B : zT) : Int := @ite _ (∀ p, p < 12 → A p = B p) (Classical.propDecidable _) 1 0
theorem eqT_t {A B : zT} (h : ∀ p, p < 12 → A p = B p) : eqT A B = 1 := by unfold eqT; rw [if_pos h]
theorem eqT_f {A B : zT} (h : ¬ ∀ p, p < 12 → A p = B p) : eqT A B = 0 := by unfold eqT; rw [if_neg h]
theorem eqT_01 (A B : zT) : eqT A B = 0 ∨ eqT A B = 1 := by
  by_cases h : ∀ p, p < 12 → A p = B p
  · exact Or.inr (eqT_t h)
  · exact Or.inl (eqT_f h)
theorem eqT_1 {A B : zT} (h : eqT A B = 1) : ∀ p, p < 12 → A p = B p := by
  by_cases q : ∀ p, p < 12 → A p = B p
  · exact q
  · rw [eqT_f q] at h; omega
section
variable {o : jw_O} {σ : zS} {t : Nat} {A : zT}
theorem t_fileAt (h : isT o t) (p : Nat) (hp : p < 12) : zRo mi_Tree_fileAt 0 o [.ref t, .int (iI p)] σ (some (.ref (fA t p))) := by
  refine z_spec (by decide +kernel) (Nat.le_of_ble_eq_true rfl) rfl (fun k hs hR hE => ?_)
  refine jw_iload_n (pc' := 1) jd_Tree_fileAt_0 rfl rfl rfl ?_
  refine zx_if_lt (tgt := 19) (pc' := 4) (by first | exact rg_iv _ _ _ | omega) jd_Tree_fileAt_1 (by decide) rfl (fun q => ?_) (fun q => ?_)
  · exfalso; omega
  refine jw_iload_n (pc' := 5) jd_Tree_fileAt_4 rfl rfl rfl ?_
  refine zx_bipush (pc' := 7) (n := 12) jd_Tree_fileAt_5 (by decide +kernel) rfl ?_
  refine zx_icmp_ge (tgt := 19) (pc' := 10) (by first | exact rg_iv _ _ _ | omega) (by first | exact rg_iv _ _ _ | omega) jd_Tree_fileAt_7 (by decide) rfl (fun q2 => ?_) (fun q2 => ?_)
  · exfalso; omega
  refine jw_aload_n (pc' := 11) jd_Tree_fileAt_10 rfl rfl rfl ?_
  refine jw_get (pc' := 14) (kf := 0) jc_Tree (by decide) jq_73 jd_Tree_fileAt_11 (mc_Tree _ (by assumption)) rfl rfl ?_
  refine jw_iload_n (pc' := 15) jd_Tree_fileAt_14 rfl rfl rfl ?_
  refine zx_files (pc' := 16) (by assumption) jd_Tree_fileAt_15 rfl (by omega) rfl ?_
  refine jw_goto (tgt := 23) jd_Tree_fileAt_16 (by decide) ?_
  refine zx_aret hE jd_Tree_fileAt_23 rfl ?_
  exact ⟨rfl, rfl⟩
theorem t_has (h : TC o σ t A) (p : Nat) (hp : p < 12) : zRo mi_Tree_has 1 o [.ref t, .int (iI p)] σ (some (.int (iI (A p).1))) := by
  have ht := h.1
  have hf := (h.2 p hp).1
  have h01 := (h.2 p hp).2.1.p
  refine z_spec (by decide +kernel) (Nat.le_of_ble_eq_true rfl) rfl (fun k hs hR hE => ?_)
  refine jw_aload_n (pc' := 1) jd_Tree_has_0 rfl rfl rfl ?_
  refine jw_iload_n (pc' := 2) jd_Tree_has_1 rfl rfl rfl ?_
  refine zx_callV0 (pc' := 5) hR (t_fileAt ht p hp) jm_Tree_fileAt jq_405 jc_Tree jd_Tree_has_2 (mc_Tree _ (by assumption)) rfl rfl (Nat.le_of_ble_eq_true rfl) (by omega) (by decide) rfl rfl ?_
  refine zx_callV0 (pc' := 8) hR (c_exists (h.2 p hp)) jm_Content_exists jq_406 jc_Content jd_Tree_has_5 (mc_Content _ (by assumption)) rfl rfl (Nat.le_of_ble_eq_true rfl) (by omega) (by decide) rfl rfl ?_
  refine zx_zret (by first | exact Or.inl rfl | exact Or.inr rfl | assumption | omega) hE jd_Tree_has_8 rfl ?_
  exact ⟨rfl, rfl⟩
theorem t_count (h : TC o σ t A) : zRo mi_Tree_countFiles 2 o [.ref t] σ (some (.int (iI (nF A)))) := by
  have ht := h.1
  refine z_spec (by decide +kernel) (Nat.le_of_ble_eq_true rfl) rfl (fun k hs hR hE => ?_)
  refine zx_iconst (pc' := 1) (n := 0) jd_Tree_countFiles_0 rfl ?_
  refine jw_istore_n (pc' := 2) (lc' := [(0, _), (1, _)]) jd_Tree_countFiles_1 rfl (Nat.le_of_ble_eq_true rfl) ⟨rfl, rfl, trivial⟩ rfl ?_
  refine zx_iconst (pc' := 3) (n := 0) jd_Tree_countFiles_2 rfl ?_
  refine jw_istore_n (pc' := 4) (lc' := [(0, _), (1, _), (2, _)]) jd_Tree_countFiles_3 rfl (Nat.le_of_ble_eq_true rfl) ⟨rfl, rfl, rfl, trivial⟩ rfl ?_
  have loop : ∀ (m i : Nat) (u : Int), i + m = 12 → it (fun p u => if (A p).1 = 0 then u else u + 1) m i u = nF A → jw_X mi_Tree_countFiles o k 0 0 4 [(0, .ref t), (1, .int (iI u)), (2, .int (iI i))] [] (mm o σ) hs := by
    intro m
    induction m with
    | zero =>
      intro i u hi he
      refine jw_iload_n (pc' := 5) jd_Tree_countFiles_4 rfl rfl rfl ?_
      refine zx_bipush (pc' := 7) (n := 12) jd_Tree_countFiles_5 (by decide +kernel) rfl ?_
      refine zx_icmp_ge (tgt := 27) (pc' := 10) (by first | exact rg_iv _ _ _ | omega) (by first | exact rg_iv _ _ _ | omega) jd_Tree_countFiles_7 (by decide) rfl (fun q => ?_) (fun q => ?_)
      rotate_left
      · exfalso; omega
      refine jw_iload_n (pc' := 28) jd_Tree_countFiles_27 rfl rfl rfl ?_
      refine zx_iret hE jd_Tree_countFiles_28 rfl ?_
      exact ⟨by rw [← he]; rfl, rfl⟩
    | succ m ih =>
      intro i u hi he
      have h01 := (h.2 i (by omega)).2.1.p
      refine jw_iload_n (pc' := 5) jd_Tree_countFiles_4 rfl rfl rfl ?_
      refine zx_bipush (pc' := 7) (n := 12) jd_Tree_countFiles_5 (by decide +kernel) rfl ?_
      refine zx_icmp_ge (tgt := 27) (pc' := 10) (by first | exact rg_iv _ _ _ | omega) (by first | exact rg_iv _ _ _ | omega) jd_Tree_countFiles_7 (by decide) rfl (fun q => ?_) (fun q => ?_)
      · exfalso; omega
      refine jw_aload_n (pc' := 11) jd_Tree_countFiles_10 rfl rfl rfl ?_
      refine jw_iload_n (pc' := 12) jd_Tree_countFiles_11 rfl rfl rfl ?_
      refine zx_callV0 (pc' := 15) hR (t_has h i (by omega)) jm_Tree_has jq_736 jc_Tree jd_Tree_countFiles_12 (mc_Tree _ (by assumption)) rfl rfl (Nat.le_of_ble_eq_true rfl) (by omega) (by decide) rfl rfl ?_
      refine zx_if_eq (tgt := 21) (pc' := 18) (by first | exact rg_iv _ _ _ | omega) jd_Tree_countFiles_15 (by decide) rfl (fun q2 => ?_) (fun q2 => ?_)
      · refine zx_iinc (pc' := 24) (lc' := [(0, _), (1, _), (2, _)]) jd_Tree_countFiles_21 rfl (Nat.le_of_ble_eq_true rfl) ⟨rfl, rfl, rfl, trivial⟩ rfl ?_
        refine jw_goto (tgt := 4) jd_Tree_countFiles_24 (by decide) ?_
        exact ih (i + 1) u (by omega) (by rw [← he]; simp only [it]; rw [if_pos q2])
      · refine zx_iinc (pc' := 21) (lc' := [(0, _), (1, _), (2, _)]) jd_Tree_countFiles_18 rfl (Nat.le_of_ble_eq_true rfl) ⟨rfl, rfl, rfl, trivial⟩ rfl ?_
        refine zx_iinc (pc' := 24) (lc' := [(0, _), (1, _), (2, _)]) jd_Tree_countFiles_21 rfl (Nat.le_of_ble_eq_true rfl) ⟨rfl, rfl, rfl, trivial⟩ rfl ?_
        refine jw_goto (tgt := 4) jd_Tree_countFiles_24 (by decide) ?_
        exact ih (i + 1) (u + 1) (by omega) (by rw [← he]; simp only [it]; rw [if_neg q2])
  exact loop 12 0 0 (by omega) rfl
theorem t_clear (h : isT o t) : zSpec mi_Tree_clear 1 o [.ref t] σ (fun v s => v = none ∧ TC o s t (fun _ => v0) ∧ zF σ s t 28) := by
  refine z_spec (by decide +kernel) (Nat.le_of_ble_eq_true rfl) rfl (fun k hs hR hE => ?_)
  refine zx_iconst (pc' := 1) (n := 0) jd_Tree_clear_0 rfl ?_
  refine jw_istore_n (pc' := 2) (lc' := [(0, _), (1, _)]) jd_Tree_clear_1 rfl (Nat.le_of_ble_eq_true rfl) ⟨rfl, rfl, trivial⟩ rfl ?_
  have loop : ∀ (m i : Nat) (s : zS), i + m = 12 → (∀ p, p < i → VC o s (fA t p) v0) → zF σ s t 28 → jw_X mi_Tree_clear o k 0 0 2 [(0, .ref t), (1, .int (iI i))] [] (mm o s) hs := by
    intro m
    induction m with
    | zero =>
      intro i s hi hA hF
      refine jw_iload_n (pc' := 3) jd_Tree_clear_2 rfl rfl rfl ?_
      refine zx_bipush (pc' := 5) (n := 12) jd_Tree_clear_3 (by decide +kernel) rfl ?_
      refine zx_icmp_ge (tgt := 23) (pc' := 8) (by first | exact rg_iv _ _ _ | omega) (by first | exact rg_iv _ _ _ | omega) jd_Tree_clear_5 (by decide) rfl (fun q => ?_) (fun q => ?_)
      rotate_left
      · exfalso; omega
      refine zx_vret hE jd_Tree_clear_23 rfl ?_
      exact ⟨rfl, ⟨h, fun p hp => hA p (by omega)⟩, hF⟩
    | succ m ih =>
      intro i s hi hA hF
      have hc := h.f (p := i) (by omega)
      refine jw_iload_n (pc' := 3) jd_Tree_clear_2 rfl rfl rfl ?_
      refine zx_bipush (pc' := 5) (n := 12) jd_Tree_clear_3 (by decide +kernel) rfl ?_
      refine zx_icmp_ge (tgt := 23) (pc' := 8) (by first | exact rg_iv _ _ _ | omega) (by first | exact rg_iv _ _ _ | omega) jd_Tree_clear_5 (by decide) rfl (fun q => ?_) (fun q => ?_)
      · exfalso; omega
      refine jw_aload_n (pc' := 9) jd_Tree_clear_8 rfl rfl rfl ?_
      refine jw_get (pc' := 12) (kf := 0) jc_Tree (by decide) jq_73 jd_Tree_clear_9 (mc_Tree _ (by assumption)) rfl rfl ?_
      refine jw_iload_n (pc' := 13) jd_Tree_clear_12 rfl rfl rfl ?_
      refine zx_files (pc' := 14) (by assumption) jd_Tree_clear_13 rfl (by omega) rfl ?_
      refine zx_callV (pc' := 17) hR (c_absent hc rfl) jm_Content_becomeAbsent jq_539 jc_Content jd_Tree_clear_14 (mc_Content _ (by assumption)) rfl rfl (Nat.le_of_ble_eq_true rfl) (by omega) (by decide) rfl (fun v9 s1 q9 => ?_)
      obtain ⟨rfl, h1, f1⟩ := q9
      refine zx_iinc (pc' := 20) (lc' := [(0, _), (1, _)]) jd_Tree_clear_17 rfl (Nat.le_of_ble_eq_true rfl) ⟨rfl, rfl, trivial⟩ rfl ?_
      refine jw_goto (tgt := 2) jd_Tree_clear_20 (by decide) ?_
      refine ih (i + 1) s1 (by omega) (fun p hp => ?_) (hF.trans f1 (by unfold fA; omega) (by unfold fA; omega))
      by_cases q9 : p = i
      · rw [q9]; exact h1
      · exact (hA p (by omega)).fr f1 (by unfold fA; omega)
  exact loop 12 0 σ (by omega) (fun p hp => absurd hp (by omega)) zF.rf
theorem t_copyFrom {u : Nat} {B : zT} (h : isT o t) (h2 : TC o σ u B) (hd : t + 28 ≤ u ∨ u + 28 ≤ t) : zSpec mi_Tree_copyFrom 2 o [.ref t, .ref u] σ (fun v s => v = none ∧ TC o s t B ∧ zF σ s t 28) := by
  have hu := h2.1
  refine z_spec (by decide +kernel) (Nat.le_of_ble_eq_true rfl) rfl (fun k hs hR hE => ?_)
  refine zx_iconst (pc' := 1) (n := 0) jd_Tree_copyFrom_0 rfl ?_
  refine jw_istore_n (pc' := 2) (lc' := [(0, _), (1, _), (2, _)]) jd_Tree_copyFrom_1 rfl (Nat.le_of_ble_eq_true rfl) ⟨rfl, rfl, rfl, trivial⟩ rfl ?_
  have loop : ∀ (m i : Nat) (s : zS), i + m = 12 → (∀ p, p < i → VC o s (fA t p) (B p)) → zF σ s t 28 → jw_X mi_Tree_copyFrom o k 0 0 2 [(0, .ref t), (1, .ref u), (2, .int (iI i))] [] (mm o s) hs := by
    intro m
    induction m with
    | zero =>
      intro i s hi hA hF
      refine jw_iload_n (pc' := 3) jd_Tree_copyFrom_2 rfl rfl rfl ?_
      refine zx_bipush (pc' := 5) (n := 12) jd_Tree_copyFrom_3 (by decide +kernel) rfl ?_
      refine zx_icmp_ge (tgt := 28) (pc' := 8) (by first | exact rg_iv _ _ _ | omega) (by first | exact rg_iv _ _ _ | omega) jd_Tree_copyFrom_5 (by decide) rfl (fun q => ?_) (fun q => ?_)
      rotate_left
      · exfalso; omega
      refine zx_vret hE jd_Tree_copyFrom_28 rfl ?_
      exact ⟨rfl, ⟨h, fun p hp => hA p (by omega)⟩, hF⟩
    | succ m ih =>
      intro i s hi hA hF
      have hc := h.f (p := i) (by omega)
      have h3 := h2.fr hF hd.symm
      refine jw_iload_n (pc' := 3) jd_Tree_copyFrom_2 rfl rfl rfl ?_
      refine zx_bipush (pc' := 5) (n := 12) jd_Tree_copyFrom_3 (by decide +kernel) rfl ?_
      refine zx_icmp_ge (tgt := 28) (pc' := 8) (by first | exact rg_iv _ _ _ | omega) (by first | exact rg_iv _ _ _ | omega) jd_Tree_copyFrom_5 (by decide) rfl (fun q => ?_) (fun q => ?_)
      · exfalso; omega
      refine jw_aload_n (pc' := 9) jd_Tree_copyFrom_8 rfl rfl rfl ?_
      refine jw_get (pc' := 12) (kf := 0) jc_Tree (by decide) jq_73 jd_Tree_copyFrom_9 (mc_Tree _ (by assumption)) rfl rfl ?_
      refine jw_iload_n (pc' := 13) jd_Tree_copyFrom_12 rfl rfl rfl ?_
      refine zx_files (pc' := 14) (by assumption) jd_Tree_copyFrom_13 rfl (by omega) rfl ?_
      refine jw_aload_n (pc' := 15) jd_Tree_copyFrom_14 rfl rfl rfl ?_
      refine jw_iload_n (pc' := 16) jd_Tree_copyFrom_15 rfl rfl rfl ?_
      refine zx_callV0 (pc' := 19) hR (t_fileAt hu i (by omega)) jm_Tree_fileAt jq_405 jc_Tree jd_Tree_copyFrom_16 (mc_Tree _ (by assumption)) rfl rfl (Nat.le_of_ble_eq_true rfl) (by omega) (by decide) rfl rfl ?_
      refine zx_callV (pc' := 22) hR (c_copyFrom hc (h3.2 i (by omega)) (by unfold fA; omega)) jm_Content_copyFrom jq_473 jc_Content jd_Tree_copyFrom_19 (mc_Content _ (by assumption)) rfl rfl (Nat.le_of_ble_eq_true rfl) (by omega) (by decide) rfl (fun v9 s1 q9 => ?_)
      obtain ⟨rfl, h1, f1⟩ := q9
      refine zx_iinc (pc' := 25) (lc' := [(0, _), (1, _), (2, _)]) jd_Tree_copyFrom_22 rfl (Nat.le_of_ble_eq_true rfl) ⟨rfl, rfl, rfl, trivial⟩ rfl ?_
      refine jw_goto (tgt := 2) jd_Tree_copyFrom_25 (by decide) ?_
      refine ih (i + 1) s1 (by omega) (fun p hp => ?_) (hF.trans f1 (by unfold fA; omega) (by unfold fA; omega))
      by_cases q9 : p = i
      · rw [q9]; exact h1
      · exact (hA p (by omega)).fr f1 (by unfold fA; omega)
  exact loop 12 0 σ (by omega) (fun p hp => absurd hp (by omega)) zF.rf
theorem t_sameAs {u : Nat} {B : zT} (h : TC o σ t A) (h2 : TC o σ u B) : zRo mi_Tree_sameAs 2 o [.ref t, .ref u] σ (some (.int (iI (eqT A B)))) := by
  have ht := h.1
  have hu := h2.1
  refine z_spec (by decide +kernel) (Nat.le_of_ble_eq_true rfl) rfl (fun k hs hR hE => ?_)
  refine zx_iconst (pc' := 1) (n := 0) jd_Tree_sameAs_0 rfl ?_
  refine jw_istore_n (pc' := 2) (lc' := [(0, _), (1, _), (2, _)]) jd_Tree_sameAs_1 rfl (Nat.le_of_ble_eq_true rfl) ⟨rfl, rfl, rfl, trivial⟩ rfl ?_
  have loop : ∀ (m i : Nat), i + m = 12 → (∀ p, p < i → A p = B p) → jw_X mi_Tree_sameAs o k 0 0 2 [(0, .ref t), (1, .ref u), (2, .int (iI i))] [] (mm o σ) hs := by
    intro m
    induction m with
    | zero =>
      intro i hi hA
      refine jw_iload_n (pc' := 3) jd_Tree_sameAs_2 rfl rfl rfl ?_
      refine zx_bipush (pc' := 5) (n := 12) jd_Tree_sameAs_3 (by decide +kernel) rfl ?_
      refine zx_icmp_ge (tgt := 33) (pc' := 8) (by first | exact rg_iv _ _ _ | omega) (by first | exact rg_iv _ _ _ | omega) jd_Tree_sameAs_5 (by decide) rfl (fun q => ?_) (fun q => ?_)
      rotate_left
      · exfalso; omega
      refine zx_iconst (pc' := 34) (n := 1) jd_Tree_sameAs_33 rfl ?_
      refine zx_zret (by first | exact Or.inl rfl | exact Or.inr rfl | assumption | omega) hE jd_Tree_sameAs_34 rfl ?_
      exact ⟨by rw [eqT_t (fun p hp => hA p (by omega))], rfl⟩
    | succ m ih =>
      intro i hi hA
      have hc := ht.f (p := i) (by omega)
      have h01 := eqV_01 (A i) (B i)
      refine jw_iload_n (pc' := 3) jd_Tree_sameAs_2 rfl rfl rfl ?_
      refine zx_bipush (pc' := 5) (n := 12) jd_Tree_sameAs_3 (by decide +kernel) rfl ?_
      refine zx_icmp_ge (tgt := 33) (pc' := 8) (by first | exact rg_iv _ _ _ | omega) (by first | exact rg_iv _ _ _ | omega) jd_Tree_sameAs_5 (by decide) rfl (fun q => ?_) (fun q => ?_)
      · exfalso; omega
      refine jw_aload_n (pc' := 9) jd_Tree_sameAs_8 rfl rfl rfl ?_
      refine jw_get (pc' := 12) (kf := 0) jc_Tree (by decide) jq_73 jd_Tree_sameAs_9 (mc_Tree _ (by assumption)) rfl rfl ?_
      refine jw_iload_n (pc' := 13) jd_Tree_sameAs_12 rfl rfl rfl ?_
      refine zx_files (pc' := 14) (by assumption) jd_Tree_sameAs_13 rfl (by omega) rfl ?_
      refine jw_aload_n (pc' := 15) jd_Tree_sameAs_14 rfl rfl rfl ?_
      refine jw_iload_n (pc' := 16) jd_Tree_sameAs_15 rfl rfl rfl ?_
      refine zx_callV0 (pc' := 19) hR (t_fileAt hu i (by omega)) jm_Tree_fileAt jq_405 jc_Tree jd_Tree_sameAs_16 (mc_Tree _ (by assumption)) rfl rfl (Nat.le_of_ble_eq_true rfl) (by omega) (by decide) rfl rfl ?_
      refine zx_callV0 (pc' := 22) hR (c_sameAs (h.2 i (by omega)) (h2.2 i (by omega))) jm_Content_sameAs jq_460 jc_Content jd_Tree_sameAs_19 (mc_Content _ (by assumption)) rfl rfl (Nat.le_of_ble_eq_true rfl) (by omega) (by decide) rfl rfl ?_
      refine zx_if_ne (tgt := 27) (pc' := 25) (by first | exact rg_iv _ _ _ | omega) jd_Tree_sameAs_22 (by decide) rfl (fun q2 => ?_) (fun q2 => ?_)
      · refine zx_iinc (pc' := 30) (lc' := [(0, _), (1, _), (2, _)]) jd_Tree_sameAs_27 rfl (Nat.le_of_ble_eq_true rfl) ⟨rfl, rfl, rfl, trivial⟩ rfl ?_
        refine jw_goto (tgt := 2) jd_Tree_sameAs_30 (by decide) ?_
        refine ih (i + 1) (by omega) (fun p hp => ?_)
        by_cases q9 : p = i
        · rw [q9]; exact eqV_1.mp (by omega)
        · exact hA p (by omega)
      · refine zx_iconst (pc' := 26) (n := 0) jd_Tree_sameAs_25 rfl ?_
        refine zx_zret (by first | exact Or.inl rfl | exact Or.inr rfl | assumption | omega) hE jd_Tree_sameAs_26 rfl ?_
        exact ⟨by rw [eqT_f (fun z => eqV_0.mp q2 (z i (by omega)))], rfl⟩
  exact loop 12 0 (by omega) (fun p hp => absurd hp (by omega))
theorem z_fill {a n : Nat} {v : Int} (ha : ∀ s, mm o s a = some (.inl (o.2.2.1 0, n, .inl (s a)))) (hn : n < 1000) (hv : -2147483648 ≤ v ∧ v < 2147483648) : zSpec mi_Arrays_fill 0 o [.ref a, .int (iI v)] σ (fun r s => r = none ∧ (∀ q, q < n → iv s a q = v) ∧ zF σ s a 1) := by
  refine z_spec (by decide +kernel) (Nat.le_of_ble_eq_true rfl) rfl (fun k hs hR hE => ?_)
  refine zx_iconst (pc' := 1) (n := 0) jd_Arrays_fill_0 rfl ?_
  refine jw_istore_n (pc' := 2) (lc' := [(0, _), (1, _), (2, _)]) jd_Arrays_fill_1 rfl (Nat.le_of_ble_eq_true rfl) ⟨rfl, rfl, rfl, trivial⟩ rfl ?_
  refine jw_aload_n (pc' := 3) jd_Arrays_fill_2 rfl rfl rfl ?_
  refine zx_alen (pc' := 4) (i := 0) jd_Arrays_fill_3 (ha _) rfl rfl rfl ?_
  refine jw_istore_n (pc' := 5) (lc' := [(0, _), (1, _), (2, _), (3, _)]) jd_Arrays_fill_4 rfl (Nat.le_of_ble_eq_true rfl) ⟨rfl, rfl, rfl, rfl, trivial⟩ rfl ?_
  have loop : ∀ (m i : Nat) (s : zS), i + m = n → (∀ p, p < i → iv s a p = v) → zF σ s a 1 → jw_X mi_Arrays_fill o k 0 0 5 [(0, .ref a), (1, .int (iI v)), (2, .int (iI i)), (3, .int (iI n))] [] (mm o s) hs := by
    intro m
    induction m with
    | zero =>
      intro i s hi hA hF
      refine jw_iload_n (pc' := 6) jd_Arrays_fill_5 rfl rfl rfl ?_
      refine jw_iload_n (pc' := 7) jd_Arrays_fill_6 rfl rfl rfl ?_
      refine zx_icmp_ge (tgt := 20) (pc' := 10) (by first | exact rg_iv _ _ _ | omega) (by first | exact rg_iv _ _ _ | omega) jd_Arrays_fill_7 (by decide) rfl (fun q => ?_) (fun q => ?_)
      rotate_left
      · exfalso; omega
      refine zx_vret hE jd_Arrays_fill_20 rfl ?_
      exact ⟨rfl, fun p hp => hA p (by omega), hF⟩
    | succ m ih =>
      intro i s hi hA hF
      refine jw_iload_n (pc' := 6) jd_Arrays_fill_5 rfl rfl rfl ?_
      refine jw_iload_n (pc' := 7) jd_Arrays_fill_6 rfl rfl rfl ?_
      refine zx_icmp_ge (tgt := 20) (pc' := 10) (by first | exact rg_iv _ _ _ | omega) (by first | exact rg_iv _ _ _ | omega) jd_Arrays_fill_7 (by decide) rfl (fun q => ?_) (fun q => ?_)
      · exfalso; omega
      refine jw_aload_n (pc' := 11) jd_Arrays_fill_10 rfl rfl rfl ?_
      refine jw_iload_n (pc' := 12) jd_Arrays_fill_11 rfl rfl rfl ?_
      refine jw_iload_n (pc' := 13) jd_Arrays_fill_12 rfl rfl rfl ?_
      refine zx_iast (pc' := 14) jd_Arrays_fill_13 (ha _) rfl (by omega) (by omega) rfl ?_
      refine zx_iinc (pc' := 17) (lc' := [(0, _), (1, _), (2, _), (3, _)]) jd_Arrays_fill_14 rfl (Nat.le_of_ble_eq_true rfl) ⟨rfl, rfl, rfl, rfl, trivial⟩ rfl ?_
      refine jw_goto (tgt := 5) jd_Arrays_fill_17 (by decide) ?_
      refine ih (i + 1) _ (by omega) (fun p hp => ?_) (hF.si (by omega))
      rw [iv_si hv]
      by_cases q9 : p = i
      · rw [if_pos ⟨rfl, q9⟩]
      · rw [if_neg (fun z => q9 z.2)]; exact hA p (by omega)
  exact loop n 0 σ (by omega) (fun p hp => absurd hp (by omega)) zF.rf
end
end
section
theorem jd_Match_measure_0 : decode mi_Match_measure.2.1 0 = .ok (.aload_n 0, 1) := by decide +kernel
theorem jd_Match_measure_1 : decode mi_Match_measure.2.1 1 = .ok (.getfield 11, 3) := by decide +kernel
theorem jd_Match_measure_4 : decode mi_Match_measure.2.1 4 = .ok (.iconst 0, 1) := by decide +kernel
theorem jd_Match_measure_5 : decode mi_Match_measure.2.1 5 = .ok (.invokestatic 31, 3) := by decide +kernel
theorem jd_Match_measure_8 : decode mi_Match_measure.2.1 8 = .ok (.aload_n 1, 1) := by decide +kernel
theorem jd_Match_measure_9 : decode mi_Match_measure.2.1 9 = .ok (.invokevirtual 21, 3) := by decide +kernel
theorem jd_Match_measure_12 : decode mi_Match_measure.2.1 12 = .ok (.iconst 1, 1) := by decide +kernel
theorem jd_Match_measure_13 : decode mi_Match_measure.2.1 13 = .ok (.isub, 1) := by decide +kernel
theorem jd_Match_measure_14 : decode mi_Match_measure.2.1 14 = .ok (.istore_n 3, 1) := by decide +kernel
theorem jd_Match_measure_15 : decode mi_Match_measure.2.1 15 = .ok (.iload_n 3, 1) := by decide +kernel
theorem jd_Match_measure_16 : decode mi_Match_measure.2.1 16 = .ok (.ifCond .lt 108, 3) := by decide +kernel
theorem jd_Match_measure_19 : decode mi_Match_measure.2.1 19 = .ok (.aload_n 1, 1) := by decide +kernel
theorem jd_Match_measure_20 : decode mi_Match_measure.2.1 20 = .ok (.iload_n 3, 1) := by decide +kernel
theorem jd_Match_measure_21 : decode mi_Match_measure.2.1 21 = .ok (.invokevirtual 37, 3) := by decide +kernel
theorem jd_Match_measure_24 : decode mi_Match_measure.2.1 24 = .ok (.istore 4, 2) := by decide +kernel
theorem jd_Match_measure_26 : decode mi_Match_measure.2.1 26 = .ok (.aload_n 2, 1) := by decide +kernel
theorem jd_Match_measure_27 : decode mi_Match_measure.2.1 27 = .ok (.invokevirtual 21, 3) := by decide +kernel
theorem jd_Match_measure_30 : decode mi_Match_measure.2.1 30 = .ok (.iconst 1, 1) := by decide +kernel
theorem jd_Match_measure_31 : decode mi_Match_measure.2.1 31 = .ok (.isub, 1) := by decide +kernel
theorem jd_Match_measure_32 : decode mi_Match_measure.2.1 32 = .ok (.istore 5, 2) := by decide +kernel
theorem jd_Match_measure_34 : decode mi_Match_measure.2.1 34 = .ok (.iload 5, 2) := by decide +kernel
theorem jd_Match_measure_36 : decode mi_Match_measure.2.1 36 = .ok (.ifCond .lt 82, 3) := by decide +kernel
theorem jd_Match_measure_39 : decode mi_Match_measure.2.1 39 = .ok (.iload_n 3, 1) := by decide +kernel
theorem jd_Match_measure_40 : decode mi_Match_measure.2.1 40 = .ok (.bipush 11, 2) := by decide +kernel
theorem jd_Match_measure_42 : decode mi_Match_measure.2.1 42 = .ok (.imul, 1) := by decide +kernel
theorem jd_Match_measure_43 : decode mi_Match_measure.2.1 43 = .ok (.iload 5, 2) := by decide +kernel
theorem jd_Match_measure_45 : decode mi_Match_measure.2.1 45 = .ok (.iadd, 1) := by decide +kernel
theorem jd_Match_measure_46 : decode mi_Match_measure.2.1 46 = .ok (.istore 6, 2) := by decide +kernel
theorem jd_Match_measure_48 : decode mi_Match_measure.2.1 48 = .ok (.iload 4, 2) := by decide +kernel
theorem jd_Match_measure_50 : decode mi_Match_measure.2.1 50 = .ok (.aload_n 2, 1) := by decide +kernel
theorem jd_Match_measure_51 : decode mi_Match_measure.2.1 51 = .ok (.iload 5, 2) := by decide +kernel
theorem jd_Match_measure_53 : decode mi_Match_measure.2.1 53 = .ok (.invokevirtual 37, 3) := by decide +kernel
theorem jd_Match_measure_56 : decode mi_Match_measure.2.1 56 = .ok (.if_icmp .ne 27, 3) := by decide +kernel
theorem jd_Match_measure_59 : decode mi_Match_measure.2.1 59 = .ok (.aload_n 0, 1) := by decide +kernel
theorem jd_Match_measure_60 : decode mi_Match_measure.2.1 60 = .ok (.getfield 11, 3) := by decide +kernel
theorem jd_Match_measure_63 : decode mi_Match_measure.2.1 63 = .ok (.iload 6, 2) := by decide +kernel
theorem jd_Match_measure_65 : decode mi_Match_measure.2.1 65 = .ok (.aload_n 0, 1) := by decide +kernel
theorem jd_Match_measure_66 : decode mi_Match_measure.2.1 66 = .ok (.getfield 11, 3) := by decide +kernel
theorem jd_Match_measure_69 : decode mi_Match_measure.2.1 69 = .ok (.iload 6, 2) := by decide +kernel
theorem jd_Match_measure_71 : decode mi_Match_measure.2.1 71 = .ok (.bipush 11, 2) := by decide +kernel
theorem jd_Match_measure_73 : decode mi_Match_measure.2.1 73 = .ok (.iadd, 1) := by decide +kernel
theorem jd_Match_measure_74 : decode mi_Match_measure.2.1 74 = .ok (.iconst 1, 1) := by decide +kernel
theorem jd_Match_measure_75 : decode mi_Match_measure.2.1 75 = .ok (.iadd, 1) := by decide +kernel
theorem jd_Match_measure_76 : decode mi_Match_measure.2.1 76 = .ok (.iaload, 1) := by decide +kernel
theorem jd_Match_measure_77 : decode mi_Match_measure.2.1 77 = .ok (.iconst 1, 1) := by decide +kernel
theorem jd_Match_measure_78 : decode mi_Match_measure.2.1 78 = .ok (.iadd, 1) := by decide +kernel
theorem jd_Match_measure_79 : decode mi_Match_measure.2.1 79 = .ok (.iastore, 1) := by decide +kernel
theorem jd_Match_measure_80 : decode mi_Match_measure.2.1 80 = .ok (.goto 32, 3) := by decide +kernel
theorem jd_Match_measure_83 : decode mi_Match_measure.2.1 83 = .ok (.aload_n 0, 1) := by decide +kernel
theorem jd_Match_measure_84 : decode mi_Match_measure.2.1 84 = .ok (.getfield 11, 3) := by decide +kernel
theorem jd_Match_measure_87 : decode mi_Match_measure.2.1 87 = .ok (.iload 6, 2) := by decide +kernel
theorem jd_Match_measure_89 : decode mi_Match_measure.2.1 89 = .ok (.aload_n 0, 1) := by decide +kernel
theorem jd_Match_measure_90 : decode mi_Match_measure.2.1 90 = .ok (.getfield 11, 3) := by decide +kernel
theorem jd_Match_measure_93 : decode mi_Match_measure.2.1 93 = .ok (.iload 6, 2) := by decide +kernel
theorem jd_Match_measure_95 : decode mi_Match_measure.2.1 95 = .ok (.bipush 11, 2) := by decide +kernel
theorem jd_Match_measure_97 : decode mi_Match_measure.2.1 97 = .ok (.iadd, 1) := by decide +kernel
theorem jd_Match_measure_98 : decode mi_Match_measure.2.1 98 = .ok (.iaload, 1) := by decide +kernel
theorem jd_Match_measure_99 : decode mi_Match_measure.2.1 99 = .ok (.aload_n 0, 1) := by decide +kernel
theorem jd_Match_measure_100 : decode mi_Match_measure.2.1 100 = .ok (.getfield 11, 3) := by decide +kernel
theorem jd_Match_measure_103 : decode mi_Match_measure.2.1 103 = .ok (.iload 6, 2) := by decide +kernel
theorem jd_Match_measure_105 : decode mi_Match_measure.2.1 105 = .ok (.iconst 1, 1) := by decide +kernel
theorem jd_Match_measure_106 : decode mi_Match_measure.2.1 106 = .ok (.iadd, 1) := by decide +kernel
theorem jd_Match_measure_107 : decode mi_Match_measure.2.1 107 = .ok (.iaload, 1) := by decide +kernel
theorem jd_Match_measure_108 : decode mi_Match_measure.2.1 108 = .ok (.invokestatic 41, 3) := by decide +kernel
theorem jd_Match_measure_111 : decode mi_Match_measure.2.1 111 = .ok (.iastore, 1) := by decide +kernel
theorem jd_Match_measure_112 : decode mi_Match_measure.2.1 112 = .ok (.iinc 5 (-1), 3) := by decide +kernel
theorem jd_Match_measure_115 : decode mi_Match_measure.2.1 115 = .ok (.goto (-81), 3) := by decide +kernel
theorem jd_Match_measure_118 : decode mi_Match_measure.2.1 118 = .ok (.iinc 3 (-1), 3) := by decide +kernel
theorem jd_Match_measure_121 : decode mi_Match_measure.2.1 121 = .ok (.goto (-106), 3) := by decide +kernel
theorem jd_Match_measure_124 : decode mi_Match_measure.2.1 124 = .ok (.return_, 1) := by decide +kernel
theorem jd_Match_nearnessOf_0 : decode mi_Match_nearnessOf.2.1 0 = .ok (.aload_n 1, 1) := by decide +kernel
theorem jd_Match_nearnessOf_1 : decode mi_Match_nearnessOf.2.1 1 = .ok (.invokevirtual 21, 3) := by decide +kernel
theorem jd_Match_nearnessOf_4 : decode mi_Match_nearnessOf.2.1 4 = .ok (.aload_n 2, 1) := by decide +kernel
theorem jd_Match_nearnessOf_5 : decode mi_Match_nearnessOf.2.1 5 = .ok (.invokevirtual 21, 3) := by decide +kernel
theorem jd_Match_nearnessOf_8 : decode mi_Match_nearnessOf.2.1 8 = .ok (.iadd, 1) := by decide +kernel
theorem jd_Match_nearnessOf_9 : decode mi_Match_nearnessOf.2.1 9 = .ok (.istore_n 3, 1) := by decide +kernel
theorem jd_Match_nearnessOf_10 : decode mi_Match_nearnessOf.2.1 10 = .ok (.iload_n 3, 1) := by decide +kernel
theorem jd_Match_nearnessOf_11 : decode mi_Match_nearnessOf.2.1 11 = .ok (.ifCond .gt 6, 3) := by decide +kernel
theorem jd_Match_nearnessOf_14 : decode mi_Match_nearnessOf.2.1 14 = .ok (.bipush 100, 2) := by decide +kernel
theorem jd_Match_nearnessOf_16 : decode mi_Match_nearnessOf.2.1 16 = .ok (.ireturn, 1) := by decide +kernel
theorem jd_Match_nearnessOf_17 : decode mi_Match_nearnessOf.2.1 17 = .ok (.aload_n 0, 1) := by decide +kernel
theorem jd_Match_nearnessOf_18 : decode mi_Match_nearnessOf.2.1 18 = .ok (.aload_n 1, 1) := by decide +kernel
theorem jd_Match_nearnessOf_19 : decode mi_Match_nearnessOf.2.1 19 = .ok (.aload_n 2, 1) := by decide +kernel
theorem jd_Match_nearnessOf_20 : decode mi_Match_nearnessOf.2.1 20 = .ok (.invokevirtual 27, 3) := by decide +kernel
theorem jd_Match_nearnessOf_23 : decode mi_Match_nearnessOf.2.1 23 = .ok (.sipush 200, 3) := by decide +kernel
theorem jd_Match_nearnessOf_26 : decode mi_Match_nearnessOf.2.1 26 = .ok (.aload_n 0, 1) := by decide +kernel
theorem jd_Match_nearnessOf_27 : decode mi_Match_nearnessOf.2.1 27 = .ok (.getfield 11, 3) := by decide +kernel
theorem jd_Match_nearnessOf_30 : decode mi_Match_nearnessOf.2.1 30 = .ok (.iconst 0, 1) := by decide +kernel
theorem jd_Match_nearnessOf_31 : decode mi_Match_nearnessOf.2.1 31 = .ok (.iaload, 1) := by decide +kernel
theorem jd_Match_nearnessOf_32 : decode mi_Match_nearnessOf.2.1 32 = .ok (.imul, 1) := by decide +kernel
theorem jd_Match_nearnessOf_33 : decode mi_Match_nearnessOf.2.1 33 = .ok (.iload_n 3, 1) := by decide +kernel
theorem jd_Match_nearnessOf_34 : decode mi_Match_nearnessOf.2.1 34 = .ok (.idiv, 1) := by decide +kernel
theorem jd_Match_nearnessOf_35 : decode mi_Match_nearnessOf.2.1 35 = .ok (.ireturn, 1) := by decide +kernel
theorem jd_Match_partnerInB_0 : decode mi_Match_partnerInB.2.1 0 = .ok (.iload_n 1, 1) := by decide +kernel
theorem jd_Match_partnerInB_1 : decode mi_Match_partnerInB.2.1 1 = .ok (.ifCond .lt 18, 3) := by decide +kernel
theorem jd_Match_partnerInB_4 : decode mi_Match_partnerInB.2.1 4 = .ok (.iload_n 1, 1) := by decide +kernel
theorem jd_Match_partnerInB_5 : decode mi_Match_partnerInB.2.1 5 = .ok (.bipush 10, 2) := by decide +kernel
theorem jd_Match_partnerInB_7 : decode mi_Match_partnerInB.2.1 7 = .ok (.if_icmp .ge 12, 3) := by decide +kernel
theorem jd_Match_partnerInB_10 : decode mi_Match_partnerInB.2.1 10 = .ok (.aload_n 0, 1) := by decide +kernel
theorem jd_Match_partnerInB_11 : decode mi_Match_partnerInB.2.1 11 = .ok (.getfield 15, 3) := by decide +kernel
theorem jd_Match_partnerInB_14 : decode mi_Match_partnerInB.2.1 14 = .ok (.iload_n 1, 1) := by decide +kernel
theorem jd_Match_partnerInB_15 : decode mi_Match_partnerInB.2.1 15 = .ok (.iaload, 1) := by decide +kernel
theorem jd_Match_partnerInB_16 : decode mi_Match_partnerInB.2.1 16 = .ok (.goto 4, 3) := by decide +kernel
theorem jd_Match_partnerInB_19 : decode mi_Match_partnerInB.2.1 19 = .ok (.iconst (-1), 1) := by decide +kernel
theorem jd_Match_partnerInB_20 : decode mi_Match_partnerInB.2.1 20 = .ok (.ireturn, 1) := by decide +kernel
theorem jd_Match_partnerInA_0 : decode mi_Match_partnerInA.2.1 0 = .ok (.iload_n 1, 1) := by decide +kernel
theorem jd_Match_partnerInA_1 : decode mi_Match_partnerInA.2.1 1 = .ok (.ifCond .lt 18, 3) := by decide +kernel
theorem jd_Match_partnerInA_4 : decode mi_Match_partnerInA.2.1 4 = .ok (.iload_n 1, 1) := by decide +kernel
theorem jd_Match_partnerInA_5 : decode mi_Match_partnerInA.2.1 5 = .ok (.bipush 10, 2) := by decide +kernel
theorem jd_Match_partnerInA_7 : decode mi_Match_partnerInA.2.1 7 = .ok (.if_icmp .ge 12, 3) := by decide +kernel
theorem jd_Match_partnerInA_10 : decode mi_Match_partnerInA.2.1 10 = .ok (.aload_n 0, 1) := by decide +kernel
theorem jd_Match_partnerInA_11 : decode mi_Match_partnerInA.2.1 11 = .ok (.getfield 18, 3) := by decide +kernel
theorem jd_Match_partnerInA_14 : decode mi_Match_partnerInA.2.1 14 = .ok (.iload_n 1, 1) := by decide +kernel
theorem jd_Match_partnerInA_15 : decode mi_Match_partnerInA.2.1 15 = .ok (.iaload, 1) := by decide +kernel
theorem jd_Match_partnerInA_16 : decode mi_Match_partnerInA.2.1 16 = .ok (.goto 4, 3) := by decide +kernel
theorem jd_Match_partnerInA_19 : decode mi_Match_partnerInA.2.1 19 = .ok (.iconst (-1), 1) := by decide +kernel
theorem jd_Match_partnerInA_20 : decode mi_Match_partnerInA.2.1 20 = .ok (.ireturn, 1) := by decide +kernel
theorem jd_Match_pairUp_0 : decode mi_Match_pairUp.2.1 0 = .ok (.aload_n 0, 1) := by decide +kernel
theorem jd_Match_pairUp_1 : decode mi_Match_pairUp.2.1 1 = .ok (.aload_n 1, 1) := by decide +kernel
theorem jd_Match_pairUp_2 : decode mi_Match_pairUp.2.1 2 = .ok (.aload_n 2, 1) := by decide +kernel
theorem jd_Match_pairUp_3 : decode mi_Match_pairUp.2.1 3 = .ok (.invokevirtual 27, 3) := by decide +kernel
theorem jd_Match_pairUp_6 : decode mi_Match_pairUp.2.1 6 = .ok (.aload_n 0, 1) := by decide +kernel
theorem jd_Match_pairUp_7 : decode mi_Match_pairUp.2.1 7 = .ok (.getfield 18, 3) := by decide +kernel
theorem jd_Match_pairUp_10 : decode mi_Match_pairUp.2.1 10 = .ok (.iconst (-1), 1) := by decide +kernel
theorem jd_Match_pairUp_11 : decode mi_Match_pairUp.2.1 11 = .ok (.invokestatic 31, 3) := by decide +kernel
theorem jd_Match_pairUp_14 : decode mi_Match_pairUp.2.1 14 = .ok (.aload_n 0, 1) := by decide +kernel
theorem jd_Match_pairUp_15 : decode mi_Match_pairUp.2.1 15 = .ok (.getfield 15, 3) := by decide +kernel
theorem jd_Match_pairUp_18 : decode mi_Match_pairUp.2.1 18 = .ok (.iconst (-1), 1) := by decide +kernel
theorem jd_Match_pairUp_19 : decode mi_Match_pairUp.2.1 19 = .ok (.invokestatic 31, 3) := by decide +kernel
theorem jd_Match_pairUp_22 : decode mi_Match_pairUp.2.1 22 = .ok (.iconst 0, 1) := by decide +kernel
theorem jd_Match_pairUp_23 : decode mi_Match_pairUp.2.1 23 = .ok (.istore_n 3, 1) := by decide +kernel
theorem jd_Match_pairUp_24 : decode mi_Match_pairUp.2.1 24 = .ok (.iconst 0, 1) := by decide +kernel
theorem jd_Match_pairUp_25 : decode mi_Match_pairUp.2.1 25 = .ok (.istore 4, 2) := by decide +kernel
theorem jd_Match_pairUp_27 : decode mi_Match_pairUp.2.1 27 = .ok (.iload_n 3, 1) := by decide +kernel
theorem jd_Match_pairUp_28 : decode mi_Match_pairUp.2.1 28 = .ok (.aload_n 1, 1) := by decide +kernel
theorem jd_Match_pairUp_29 : decode mi_Match_pairUp.2.1 29 = .ok (.invokevirtual 21, 3) := by decide +kernel
theorem jd_Match_pairUp_32 : decode mi_Match_pairUp.2.1 32 = .ok (.if_icmp .ge 94, 3) := by decide +kernel
theorem jd_Match_pairUp_35 : decode mi_Match_pairUp.2.1 35 = .ok (.iload 4, 2) := by decide +kernel
theorem jd_Match_pairUp_37 : decode mi_Match_pairUp.2.1 37 = .ok (.aload_n 2, 1) := by decide +kernel
theorem jd_Match_pairUp_38 : decode mi_Match_pairUp.2.1 38 = .ok (.invokevirtual 21, 3) := by decide +kernel
theorem jd_Match_pairUp_41 : decode mi_Match_pairUp.2.1 41 = .ok (.if_icmp .ge 85, 3) := by decide +kernel
theorem jd_Match_pairUp_44 : decode mi_Match_pairUp.2.1 44 = .ok (.aload_n 1, 1) := by decide +kernel
theorem jd_Match_pairUp_45 : decode mi_Match_pairUp.2.1 45 = .ok (.iload_n 3, 1) := by decide +kernel
theorem jd_Match_pairUp_46 : decode mi_Match_pairUp.2.1 46 = .ok (.invokevirtual 37, 3) := by decide +kernel
theorem jd_Match_pairUp_49 : decode mi_Match_pairUp.2.1 49 = .ok (.aload_n 2, 1) := by decide +kernel
theorem jd_Match_pairUp_50 : decode mi_Match_pairUp.2.1 50 = .ok (.iload 4, 2) := by decide +kernel
theorem jd_Match_pairUp_52 : decode mi_Match_pairUp.2.1 52 = .ok (.invokevirtual 37, 3) := by decide +kernel
theorem jd_Match_pairUp_55 : decode mi_Match_pairUp.2.1 55 = .ok (.if_icmp .ne 28, 3) := by decide +kernel
theorem jd_Match_pairUp_58 : decode mi_Match_pairUp.2.1 58 = .ok (.aload_n 0, 1) := by decide +kernel
theorem jd_Match_pairUp_59 : decode mi_Match_pairUp.2.1 59 = .ok (.getfield 15, 3) := by decide +kernel
theorem jd_Match_pairUp_62 : decode mi_Match_pairUp.2.1 62 = .ok (.iload_n 3, 1) := by decide +kernel
theorem jd_Match_pairUp_63 : decode mi_Match_pairUp.2.1 63 = .ok (.iload 4, 2) := by decide +kernel
theorem jd_Match_pairUp_65 : decode mi_Match_pairUp.2.1 65 = .ok (.iastore, 1) := by decide +kernel
theorem jd_Match_pairUp_66 : decode mi_Match_pairUp.2.1 66 = .ok (.aload_n 0, 1) := by decide +kernel
theorem jd_Match_pairUp_67 : decode mi_Match_pairUp.2.1 67 = .ok (.getfield 18, 3) := by decide +kernel
theorem jd_Match_pairUp_70 : decode mi_Match_pairUp.2.1 70 = .ok (.iload 4, 2) := by decide +kernel
theorem jd_Match_pairUp_72 : decode mi_Match_pairUp.2.1 72 = .ok (.iload_n 3, 1) := by decide +kernel
theorem jd_Match_pairUp_73 : decode mi_Match_pairUp.2.1 73 = .ok (.iastore, 1) := by decide +kernel
theorem jd_Match_pairUp_74 : decode mi_Match_pairUp.2.1 74 = .ok (.iinc 3 1, 3) := by decide +kernel
theorem jd_Match_pairUp_77 : decode mi_Match_pairUp.2.1 77 = .ok (.iinc 4 1, 3) := by decide +kernel
theorem jd_Match_pairUp_80 : decode mi_Match_pairUp.2.1 80 = .ok (.goto (-53), 3) := by decide +kernel
theorem jd_Match_pairUp_83 : decode mi_Match_pairUp.2.1 83 = .ok (.aload_n 0, 1) := by decide +kernel
theorem jd_Match_pairUp_84 : decode mi_Match_pairUp.2.1 84 = .ok (.getfield 11, 3) := by decide +kernel
theorem jd_Match_pairUp_87 : decode mi_Match_pairUp.2.1 87 = .ok (.iload_n 3, 1) := by decide +kernel
theorem jd_Match_pairUp_88 : decode mi_Match_pairUp.2.1 88 = .ok (.iconst 1, 1) := by decide +kernel
theorem jd_Match_pairUp_89 : decode mi_Match_pairUp.2.1 89 = .ok (.iadd, 1) := by decide +kernel
theorem jd_Match_pairUp_90 : decode mi_Match_pairUp.2.1 90 = .ok (.bipush 11, 2) := by decide +kernel
theorem jd_Match_pairUp_92 : decode mi_Match_pairUp.2.1 92 = .ok (.imul, 1) := by decide +kernel
theorem jd_Match_pairUp_93 : decode mi_Match_pairUp.2.1 93 = .ok (.iload 4, 2) := by decide +kernel
theorem jd_Match_pairUp_95 : decode mi_Match_pairUp.2.1 95 = .ok (.iadd, 1) := by decide +kernel
theorem jd_Match_pairUp_96 : decode mi_Match_pairUp.2.1 96 = .ok (.iaload, 1) := by decide +kernel
theorem jd_Match_pairUp_97 : decode mi_Match_pairUp.2.1 97 = .ok (.aload_n 0, 1) := by decide +kernel
theorem jd_Match_pairUp_98 : decode mi_Match_pairUp.2.1 98 = .ok (.getfield 11, 3) := by decide +kernel
theorem jd_Match_pairUp_101 : decode mi_Match_pairUp.2.1 101 = .ok (.iload_n 3, 1) := by decide +kernel
theorem jd_Match_pairUp_102 : decode mi_Match_pairUp.2.1 102 = .ok (.bipush 11, 2) := by decide +kernel
theorem jd_Match_pairUp_104 : decode mi_Match_pairUp.2.1 104 = .ok (.imul, 1) := by decide +kernel
theorem jd_Match_pairUp_105 : decode mi_Match_pairUp.2.1 105 = .ok (.iload 4, 2) := by decide +kernel
theorem jd_Match_pairUp_107 : decode mi_Match_pairUp.2.1 107 = .ok (.iadd, 1) := by decide +kernel
theorem jd_Match_pairUp_108 : decode mi_Match_pairUp.2.1 108 = .ok (.iconst 1, 1) := by decide +kernel
theorem jd_Match_pairUp_109 : decode mi_Match_pairUp.2.1 109 = .ok (.iadd, 1) := by decide +kernel
theorem jd_Match_pairUp_110 : decode mi_Match_pairUp.2.1 110 = .ok (.iaload, 1) := by decide +kernel
theorem jd_Match_pairUp_111 : decode mi_Match_pairUp.2.1 111 = .ok (.if_icmp .lt 9, 3) := by decide +kernel
theorem jd_Match_pairUp_114 : decode mi_Match_pairUp.2.1 114 = .ok (.iinc 3 1, 3) := by decide +kernel
theorem jd_Match_pairUp_117 : decode mi_Match_pairUp.2.1 117 = .ok (.goto (-90), 3) := by decide +kernel
theorem jd_Match_pairUp_120 : decode mi_Match_pairUp.2.1 120 = .ok (.iinc 4 1, 3) := by decide +kernel
theorem jd_Match_pairUp_123 : decode mi_Match_pairUp.2.1 123 = .ok (.goto (-96), 3) := by decide +kernel
theorem jd_Match_pairUp_126 : decode mi_Match_pairUp.2.1 126 = .ok (.return_, 1) := by decide +kernel
/-! the match of two contents -/
def msS (a b : zV) (i j : Nat) (T : Nat → Int) : Nat → Int := fun q => if q = i * 11 + j then (if a.2.2 i = b.2.2 j then T (i * 11 + j + 12) + 1 else max (T (i * 11 + j + 11)) (T (i * 11 + j + 1))) else T q
def msJ (a b : zV) (i : Nat) : Nat → (Nat → Int) → Nat → Int
  | 0, T => T
  | j + 1, T => msJ a b i j (msS a b i j T)
def msI (a b : zV) : Nat → (Nat → Int) → Nat → Int
  | 0, T => T
  | i + 1, T => msI a b i (msJ a b i b.2.1 T)
def msT (a b : zV) : Nat → Int := msI a b a.2.1 (fun _ => 0)
def ms1 (T : Nat → Int) (i : Nat) : Prop := ∀ q, 0 ≤ T q ∧ T q ≤ 10 - i
def ms2 (T : Nat → Int) (i : Nat) : Prop := (∀ q, 0 ≤ T q ∧ T q ≤ 10 - i) ∧ ∀ q, (i + 1) * 11 ≤ q → T q ≤ 9 - i
theorem ms12 {T : Nat → Int} {i : Nat} (h : ms1 T (i + 1)) : ms2 T i := ⟨fun q => by have := h q; omega, fun q _ => by have := h q; omega⟩
theorem msS_2 {a b : zV} {T : Nat → Int} {i j : Nat} (h : ms2 T i) (hj : j ≤ 9) : ms2 (msS a b i j T) i := by
  constructor
  · intro q
    unfold msS
    split
    · split
      · have := h.1 (i * 11 + j + 12)
        have := h.2 (i * 11 + j + 12) (by omega)
        omega
      · have := h.1 (i * 11 + j + 11)
        have := h.1 (i * 11 + j + 1)
        omega
    · exact h.1 q
  · intro q hq
    unfold msS
    rw [if_neg (by omega)]
    exact h.2 q hq
theorem msJ_2 {a b : zV} {i : Nat} : ∀ (j : Nat) {T : Nat → Int}, j ≤ 10 → ms2 T i → ms2 (msJ a b i j T) i
  | 0, _, _, h => h
  | j + 1, _, hj, h => msJ_2 j (by omega) (msS_2 h (by omega))
theorem msI_1 {a b : zV} (hb : b.2.1 ≤ 10) : ∀ (i : Nat) {T : Nat → Int}, ms1 T i → ms1 (msI a b i T) 0
  | 0, _, h => h
  | i + 1, _, h => msI_1 hb i (msJ_2 b.2.1 hb (ms12 h)).1
theorem msT_rng {a b : zV} (ha : okV a) (hb : okV b) (q : Nat) : 0 ≤ msT a b q ∧ msT a b q ≤ 10 := by
  have := msI_1 (a := a) (b := b) hb.n a.2.1 (T := fun _ => 0) (fun q => by have := ha.n; show (0:Int) ≤ 0 ∧ (0:Int) ≤ _; omega) q
  unfold msT
  omega
def nearV (a b : zV) : Int := if a.2.1 + b.2.1 = 0 then 100 else 200 * msT a b 0 / ((a.2.1 : Int) + b.2.1)
def pw (a b : zV) (T : Nat → Int) : Nat → Nat → Nat → (Nat → Int) → (Nat → Int) → (Nat → Int) × (Nat → Int)
  | 0, _, _, F, G => (F, G)
  | d + 1, i, j, F, G => if i < a.2.1 ∧ j < b.2.1 then (if a.2.2 i = b.2.2 j then pw a b T d (i + 1) (j + 1) (fun q => if q = i then (j : Int) else F q) (fun q => if q = j then (i : Int) else G q) else if T (i * 11 + j + 1) ≤ T ((i + 1) * 11 + j) then pw a b T d (i + 1) j F G else pw a b T d i (j + 1) F G) else (F, G)
def pairs (a b : zV) : (Nat → Int) × (Nat → Int) := pw a b (msT a b) 21 0 0 (fun _ => -1) (fun _ => -1)
theorem pw_rng {a b : zV} {T : Nat → Int} (ha : a.2.1 ≤ 10) (hb : b.2.1 ≤ 10) : ∀ (d i j : Nat) {F G : Nat → Int}, (∀ q, -1 ≤ F q ∧ F q ≤ 9) → (∀ q, -1 ≤ G q ∧ G q ≤ 9) → (∀ q, -1 ≤ (pw a b T d i j F G).1 q ∧ (pw a b T d i j F G).1 q ≤ 9) ∧ ∀ q, -1 ≤ (pw a b T d i j F G).2 q ∧ (pw a b T d i j F G).2 q ≤ 9
  | 0, _, _, _, _, h1, h2 => ⟨h1, h2⟩
  | d + 1, i, j, F, G, h1, h2 => by
    unfold pw
    split
    · rename_i hh
      split
      · exact pw_rng ha hb d _ _ (fun q => by split; omega; exact h1 q) (fun q => by split; omega; exact h2 q)
      · split
        · exact pw_rng ha hb d _ _ h1 h2
        · exact pw_rng ha hb d _ _ h1 h2
    · exact ⟨h1, h2⟩
theorem pairs_rng {a b : zV} (ha : okV a) (hb : okV b) : (∀ q, -1 ≤ (pairs a b).1 q ∧ (pairs a b).1 q ≤ 9) ∧ ∀ q, -1 ≤ (pairs a b).2 q ∧ (pairs a b).2 q ≤ 9 := pw_rng ha.n hb.n 21 0 0 (fun q => by omega) (fun q => by omega)
section
variable {o : jw_O} {σ : zS} {m c d : Nat} {a b : zV}
theorem m_measure (hm : isM o m) (h : VC o σ c a) (h2 : VC o σ d b) (hc : m + 4 ≤ c ∨ c + 2 ≤ m) (hd : m + 4 ≤ d ∨ d + 2 ≤ m) : zSpec mi_Match_measure 1 o [.ref m, .ref c, .ref d] σ (fun v s => v = none ∧ (∀ q, q < 121 → iv s (m + 1) q = msT a b q) ∧ zF σ s (m + 1) 1) := by
  have hcc := h.1
  have hdd := h2.1
  have han := h.2.1.n
  have hbn := h2.2.1.n
  refine z_spec (by decide +kernel) (Nat.le_of_ble_eq_true rfl) rfl (fun k hs hR hE => ?_)
  refine jw_aload_n (pc' := 1) jd_Match_measure_0 rfl rfl rfl ?_
  refine jw_get (pc' := 4) (kf := 0) jc_Match (by decide) jq_156 jd_Match_measure_1 (mc_Match _ (by assumption)) rfl rfl ?_
  refine zx_iconst (pc' := 5) (n := 0) jd_Match_measure_4 rfl ?_
  refine zx_callS (pc' := 8) hR (z_fill (n := 121) (fun s => ml_Match_common s hm) (by omega) (by omega)) jm_Arrays_fill jq_564 jd_Match_measure_5 rfl rfl (Nat.le_of_ble_eq_true rfl) (by omega) (by decide) rfl (fun v9 s0 q9 => ?_)
  obtain ⟨rfl, hf0, hF0⟩ := q9
  refine jw_aload_n (pc' := 9) jd_Match_measure_8 rfl rfl rfl ?_
  refine zx_callV0 (pc' := 12) hR (c_length (h.fr hF0 (by omega))) jm_Content_length jq_559 jc_Content jd_Match_measure_9 (mc_Content _ (by assumption)) rfl rfl (Nat.le_of_ble_eq_true rfl) (by omega) (by decide) rfl rfl ?_
  refine zx_iconst (pc' := 13) (n := 1) jd_Match_measure_12 rfl ?_
  refine zx_isub (pc' := 14) jd_Match_measure_13 rfl ?_
  refine jw_istore_n (pc' := 15) (lc' := [(0, _), (1, _), (2, _), (3, _)]) jd_Match_measure_14 rfl (Nat.le_of_ble_eq_true rfl) ⟨rfl, rfl, rfl, rfl, trivial⟩ rfl ?_
  have loop : ∀ (i : Nat) (s : zS) (T : Nat → Int), i ≤ a.2.1 → (∀ q, q < 121 → iv s (m + 1) q = T q) → ms1 T i → msI a b i T = msT a b → zF σ s (m + 1) 1 → jw_X mi_Match_measure o k 0 0 15 [(0, .ref m), (1, .ref c), (2, .ref d), (3, .int (iI (i - 1)))] [] (mm o s) hs := by
    intro i
    induction i with
    | zero =>
      intro s T hi hT h1 he hF
      refine jw_iload_n (pc' := 16) jd_Match_measure_15 rfl rfl rfl ?_
      refine zx_if_lt (tgt := 124) (pc' := 19) (by first | exact rg_iv _ _ _ | omega) jd_Match_measure_16 (by decide) rfl (fun q => ?_) (fun q => ?_)
      rotate_left
      · exfalso; omega
      refine zx_vret hE jd_Match_measure_124 rfl ?_
      exact ⟨rfl, fun q hq => by rw [hT q hq, ← he]; rfl, hF⟩
    | succ i ih =>
      intro s T hi hT h1 he hF
      have hsA := h.fr hF (by omega)
      have hs2 := h2.fr hF (by omega)
      have e1 : ((i + 1 : Nat) : Int) - 1 = (i : Int) := by omega
      rw [e1]
      refine jw_iload_n (pc' := 16) jd_Match_measure_15 rfl rfl rfl ?_
      refine zx_if_lt (tgt := 124) (pc' := 19) (by first | exact rg_iv _ _ _ | omega) jd_Match_measure_16 (by decide) rfl (fun q => ?_) (fun q => ?_)
      · exfalso; omega
      refine jw_aload_n (pc' := 20) jd_Match_measure_19 rfl rfl rfl ?_
      refine jw_iload_n (pc' := 21) jd_Match_measure_20 rfl rfl rfl ?_
      refine zx_callV0 (pc' := 24) hR (c_lineAt hsA i (by omega)) jm_Content_lineAt jq_565 jc_Content jd_Match_measure_21 (mc_Content _ (by assumption)) rfl rfl (Nat.le_of_ble_eq_true rfl) (by omega) (by decide) rfl rfl ?_
      refine jw_istore (pc' := 26) (lc' := [(0, _), (1, _), (2, _), (3, _), (4, _)]) jd_Match_measure_24 (Nat.le_of_ble_eq_true rfl) ⟨rfl, rfl, rfl, rfl, rfl, trivial⟩ rfl ?_
      refine jw_aload_n (pc' := 27) jd_Match_measure_26 rfl rfl rfl ?_
      refine zx_callV0 (pc' := 30) hR (c_length hs2) jm_Content_length jq_559 jc_Content jd_Match_measure_27 (mc_Content _ (by assumption)) rfl rfl (Nat.le_of_ble_eq_true rfl) (by omega) (by decide) rfl rfl ?_
      refine zx_iconst (pc' := 31) (n := 1) jd_Match_measure_30 rfl ?_
      refine zx_isub (pc' := 32) jd_Match_measure_31 rfl ?_
      refine jw_istore (pc' := 34) (lc' := [(0, _), (1, _), (2, _), (3, _), (4, _), (5, _)]) jd_Match_measure_32 (Nat.le_of_ble_eq_true rfl) ⟨rfl, rfl, rfl, rfl, rfl, rfl, trivial⟩ rfl ?_
      have inner : ∀ (j : Nat) (s : zS) (T : Nat → Int), j ≤ b.2.1 → (∀ q, q < 121 → iv s (m + 1) q = T q) → ms2 T i → msI a b i (msJ a b i j T) = msT a b → zF σ s (m + 1) 1 → jw_X mi_Match_measure o k 0 0 34 [(0, .ref m), (1, .ref c), (2, .ref d), (3, .int (iI i)), (4, .int (iI (a.2.2 i))), (5, .int (iI (j - 1)))] [] (mm o s) hs := by
        intro j
        induction j with
        | zero =>
          intro s T hj hT h2 he hF
          refine jw_iload (pc' := 36) jd_Match_measure_34 rfl rfl ?_
          refine zx_if_lt (tgt := 118) (pc' := 39) (by first | exact rg_iv _ _ _ | omega) jd_Match_measure_36 (by decide) rfl (fun q => ?_) (fun q => ?_)
          rotate_left
          · exfalso; omega
          refine zx_iinc (pc' := 121) (lc' := [(0, _), (1, _), (2, _), (3, _)]) jd_Match_measure_118 rfl (Nat.le_of_ble_eq_true rfl) ⟨rfl, rfl, rfl, rfl, trivial⟩ rfl ?_
          refine jw_goto (tgt := 15) jd_Match_measure_121 (by decide) ?_
          exact ih s T (by omega) hT h2.1 he hF
        | succ j jh =>
          intro s T hj hT h3 he hF
          have hs2 := h2.fr hF (by omega)
          have e1 : ((j + 1 : Nat) : Int) - 1 = (j : Int) := by omega
          rw [e1]
          have ra := h.2.1.2.1 i
          have rb := h2.2.1.2.1 j
          refine jw_iload (pc' := 36) jd_Match_measure_34 rfl rfl ?_
          refine zx_if_lt (tgt := 118) (pc' := 39) (by first | exact rg_iv _ _ _ | omega) jd_Match_measure_36 (by decide) rfl (fun q => ?_) (fun q => ?_)
          · exfalso; omega
          refine jw_iload_n (pc' := 40) jd_Match_measure_39 rfl rfl rfl ?_
          refine zx_bipush (pc' := 42) (n := 11) jd_Match_measure_40 (by decide +kernel) rfl ?_
          refine zx_imul (pc' := 43) jd_Match_measure_42 rfl ?_
          refine jw_iload (pc' := 45) jd_Match_measure_43 rfl rfl ?_
          refine zx_iadd (pc' := 46) jd_Match_measure_45 rfl ?_
          refine jw_istore (pc' := 48) (lc' := [(0, _), (1, _), (2, _), (3, _), (4, _), (5, _), (6, _)]) jd_Match_measure_46 (Nat.le_of_ble_eq_true rfl) ⟨rfl, rfl, rfl, rfl, rfl, rfl, rfl, trivial⟩ rfl ?_
          refine jw_iload (pc' := 50) jd_Match_measure_48 rfl rfl ?_
          refine jw_aload_n (pc' := 51) jd_Match_measure_50 rfl rfl rfl ?_
          refine jw_iload (pc' := 53) jd_Match_measure_51 rfl rfl ?_
          refine zx_callV0 (pc' := 56) hR (c_lineAt hs2 j (by omega)) jm_Content_lineAt jq_565 jc_Content jd_Match_measure_53 (mc_Content _ (by assumption)) rfl rfl (Nat.le_of_ble_eq_true rfl) (by omega) (by decide) rfl rfl ?_
          have g := (msS_2 (a := a) (b := b) h3 (show j ≤ 9 by omega)).1 (i * 11 + j)
          refine zx_icmp_ne (tgt := 83) (pc' := 59) (by first | exact rg_iv _ _ _ | omega) (by first | exact rg_iv _ _ _ | omega) jd_Match_measure_56 (by decide) rfl (fun q2 => ?_) (fun q2 => ?_)
          · skip
            refine jw_aload_n (pc' := 84) jd_Match_measure_83 rfl rfl rfl ?_
            refine jw_get (pc' := 87) (kf := 0) jc_Match (by decide) jq_156 jd_Match_measure_84 (mc_Match _ (by assumption)) rfl rfl ?_
            refine jw_iload (pc' := 89) jd_Match_measure_87 rfl rfl ?_
            refine jw_aload_n (pc' := 90) jd_Match_measure_89 rfl rfl rfl ?_
            refine jw_get (pc' := 93) (kf := 0) jc_Match (by decide) jq_156 jd_Match_measure_90 (mc_Match _ (by assumption)) rfl rfl ?_
            refine jw_iload (pc' := 95) jd_Match_measure_93 rfl rfl ?_
            refine zx_bipush (pc' := 97) (n := 11) jd_Match_measure_95 (by decide +kernel) rfl ?_
            refine zx_iadd (pc' := 98) jd_Match_measure_97 rfl ?_
            refine zx_iald (pc' := 99) (j := i * 11 + j + 11) jd_Match_measure_98 (ml_Match_common _ (by assumption)) (by omega) (by omega) (Nat.le_of_ble_eq_true rfl) rfl ?_
            refine jw_aload_n (pc' := 100) jd_Match_measure_99 rfl rfl rfl ?_
            refine jw_get (pc' := 103) (kf := 0) jc_Match (by decide) jq_156 jd_Match_measure_100 (mc_Match _ (by assumption)) rfl rfl ?_
            refine jw_iload (pc' := 105) jd_Match_measure_103 rfl rfl ?_
            refine zx_iconst (pc' := 106) (n := 1) jd_Match_measure_105 rfl ?_
            refine zx_iadd (pc' := 107) jd_Match_measure_106 rfl ?_
            refine zx_iald (pc' := 108) (j := i * 11 + j + 1) jd_Match_measure_107 (ml_Match_common _ (by assumption)) (by omega) (by omega) (Nat.le_of_ble_eq_true rfl) rfl ?_
            refine zx_mmax (pc' := 111) (by first | exact rg_iv _ _ _ | omega) (by first | exact rg_iv _ _ _ | omega) hR jq_566 jd_Match_measure_108 (Nat.le_of_ble_eq_true rfl) (by omega) (Nat.le_refl _) (Nat.le_refl _) rfl ?_
            refine zx_iast (pc' := 112) (j := i * 11 + j) jd_Match_measure_111 (ml_Match_common _ (by assumption)) (by omega) (by omega) (Nat.le_of_ble_eq_true rfl) rfl ?_
            refine zx_iinc (pc' := 115) (lc' := [(0, _), (1, _), (2, _), (3, _), (4, _), (5, _)]) jd_Match_measure_112 rfl (Nat.le_of_ble_eq_true rfl) ⟨rfl, rfl, rfl, rfl, rfl, rfl, trivial⟩ rfl ?_
            refine jw_goto (tgt := 34) jd_Match_measure_115 (by decide) ?_
            have g2 : msS a b i j T (i * 11 + j) = max (iv s (m + 1) (i * 11 + j + 11)) (iv s (m + 1) (i * 11 + j + 1)) := by
              unfold msS; rw [if_pos rfl, if_neg q2, hT _ (by omega), hT _ (by omega)]
            rw [show (j : Int) + -1 = j - 1 by omega]
            refine jh _ (msS a b i j T) (by omega) (fun q hq => ?_) (msS_2 h3 (by omega)) he (hF.si (by omega))
            rw [iv_si (by omega)]
            by_cases q9 : q = i * 11 + j
            · rw [if_pos ⟨rfl, q9⟩, q9, g2]
            · rw [if_neg (fun z => q9 z.2), hT q hq]; unfold msS; rw [if_neg q9]
          · skip
            refine jw_aload_n (pc' := 60) jd_Match_measure_59 rfl rfl rfl ?_
            refine jw_get (pc' := 63) (kf := 0) jc_Match (by decide) jq_156 jd_Match_measure_60 (mc_Match _ (by assumption)) rfl rfl ?_
            refine jw_iload (pc' := 65) jd_Match_measure_63 rfl rfl ?_
            refine jw_aload_n (pc' := 66) jd_Match_measure_65 rfl rfl rfl ?_
            refine jw_get (pc' := 69) (kf := 0) jc_Match (by decide) jq_156 jd_Match_measure_66 (mc_Match _ (by assumption)) rfl rfl ?_
            refine jw_iload (pc' := 71) jd_Match_measure_69 rfl rfl ?_
            refine zx_bipush (pc' := 73) (n := 11) jd_Match_measure_71 (by decide +kernel) rfl ?_
            refine zx_iadd (pc' := 74) jd_Match_measure_73 rfl ?_
            refine zx_iconst (pc' := 75) (n := 1) jd_Match_measure_74 rfl ?_
            refine zx_iadd (pc' := 76) jd_Match_measure_75 rfl ?_
            refine zx_iald (pc' := 77) (j := i * 11 + j + 12) jd_Match_measure_76 (ml_Match_common _ (by assumption)) (by omega) (by omega) (Nat.le_of_ble_eq_true rfl) rfl ?_
            refine zx_iconst (pc' := 78) (n := 1) jd_Match_measure_77 rfl ?_
            refine zx_iadd (pc' := 79) jd_Match_measure_78 rfl ?_
            refine zx_iast (pc' := 80) (j := i * 11 + j) jd_Match_measure_79 (ml_Match_common _ (by assumption)) (by omega) (by omega) (Nat.le_of_ble_eq_true rfl) rfl ?_
            refine jw_goto (tgt := 112) jd_Match_measure_80 (by decide) ?_
            refine zx_iinc (pc' := 115) (lc' := [(0, _), (1, _), (2, _), (3, _), (4, _), (5, _)]) jd_Match_measure_112 rfl (Nat.le_of_ble_eq_true rfl) ⟨rfl, rfl, rfl, rfl, rfl, rfl, trivial⟩ rfl ?_
            refine jw_goto (tgt := 34) jd_Match_measure_115 (by decide) ?_
            have g2 : msS a b i j T (i * 11 + j) = iv s (m + 1) (i * 11 + j + 12) + 1 := by
              unfold msS; rw [if_pos rfl, if_pos q2, hT _ (by omega)]
            rw [show (j : Int) + -1 = j - 1 by omega]
            refine jh _ (msS a b i j T) (by omega) (fun q hq => ?_) (msS_2 h3 (by omega)) he (hF.si (by omega))
            rw [iv_si (by omega)]
            by_cases q9 : q = i * 11 + j
            · rw [if_pos ⟨rfl, q9⟩, q9, g2]
            · rw [if_neg (fun z => q9 z.2), hT q hq]; unfold msS; rw [if_neg q9]
      exact inner b.2.1 s T (by omega) hT (ms12 h1) he hF
  exact loop a.2.1 s0 (fun _ => 0) (by omega) hf0 (fun q => by show (0:Int) ≤ 0 ∧ (0:Int) ≤ _; omega) rfl hF0
theorem m_near (hm : isM o m) (h : VC o σ c a) (h2 : VC o σ d b) (hc : m + 4 ≤ c ∨ c + 2 ≤ m) (hd : m + 4 ≤ d ∨ d + 2 ≤ m) : zSpec mi_Match_nearnessOf 2 o [.ref m, .ref c, .ref d] σ (fun v s => v = some (.int (iI (nearV a b))) ∧ zF σ s (m + 1) 1) := by
  have hcc := h.1
  have hdd := h2.1
  have han := h.2.1.n
  have hbn := h2.2.1.n
  have g := msT_rng h.2.1 h2.2.1 0
  refine z_spec (by decide +kernel) (Nat.le_of_ble_eq_true rfl) rfl (fun k hs hR hE => ?_)
  refine jw_aload_n (pc' := 1) jd_Match_nearnessOf_0 rfl rfl rfl ?_
  refine zx_callV0 (pc' := 4) hR (c_length h) jm_Content_length jq_559 jc_Content jd_Match_nearnessOf_1 (mc_Content _ (by assumption)) rfl rfl (Nat.le_of_ble_eq_true rfl) (by omega) (by decide) rfl rfl ?_
  refine jw_aload_n (pc' := 5) jd_Match_nearnessOf_4 rfl rfl rfl ?_
  refine zx_callV0 (pc' := 8) hR (c_length h2) jm_Content_length jq_559 jc_Content jd_Match_nearnessOf_5 (mc_Content _ (by assumption)) rfl rfl (Nat.le_of_ble_eq_true rfl) (by omega) (by decide) rfl rfl ?_
  refine zx_iadd (pc' := 9) jd_Match_nearnessOf_8 rfl ?_
  refine jw_istore_n (pc' := 10) (lc' := [(0, _), (1, _), (2, _), (3, _)]) jd_Match_nearnessOf_9 rfl (Nat.le_of_ble_eq_true rfl) ⟨rfl, rfl, rfl, rfl, trivial⟩ rfl ?_
  refine jw_iload_n (pc' := 11) jd_Match_nearnessOf_10 rfl rfl rfl ?_
  refine zx_if_gt (tgt := 17) (pc' := 14) (by first | exact rg_iv _ _ _ | omega) jd_Match_nearnessOf_11 (by decide) rfl (fun q => ?_) (fun q => ?_)
  rotate_left
  · refine zx_bipush (pc' := 16) (n := 100) jd_Match_nearnessOf_14 (by decide +kernel) rfl ?_
    refine zx_iret hE jd_Match_nearnessOf_16 rfl ?_
    exact ⟨by unfold nearV; rw [if_pos (by omega)], zF.rf⟩
  refine jw_aload_n (pc' := 18) jd_Match_nearnessOf_17 rfl rfl rfl ?_
  refine jw_aload_n (pc' := 19) jd_Match_nearnessOf_18 rfl rfl rfl ?_
  refine jw_aload_n (pc' := 20) jd_Match_nearnessOf_19 rfl rfl rfl ?_
  refine zx_callV (pc' := 23) hR (m_measure hm h h2 hc hd) jm_Match_measure jq_560 jc_Match jd_Match_nearnessOf_20 (mc_Match _ (by assumption)) rfl rfl (Nat.le_of_ble_eq_true rfl) (by omega) (by decide) rfl (fun v9 s1 q9 => ?_)
  obtain ⟨rfl, h1, f1⟩ := q9
  have e := h1 0 (by omega)
  refine zx_sipush (pc' := 26) (n := 200) jd_Match_nearnessOf_23 (by decide +kernel) rfl ?_
  refine jw_aload_n (pc' := 27) jd_Match_nearnessOf_26 rfl rfl rfl ?_
  refine jw_get (pc' := 30) (kf := 0) jc_Match (by decide) jq_156 jd_Match_nearnessOf_27 (mc_Match _ (by assumption)) rfl rfl ?_
  refine zx_iconst (pc' := 31) (n := 0) jd_Match_nearnessOf_30 rfl ?_
  refine zx_iald (pc' := 32) (j := 0) jd_Match_nearnessOf_31 (ml_Match_common _ (by assumption)) rfl (by omega) (Nat.le_of_ble_eq_true rfl) rfl ?_
  refine zx_imul (pc' := 33) jd_Match_nearnessOf_32 rfl ?_
  refine jw_iload_n (pc' := 34) jd_Match_nearnessOf_33 rfl rfl rfl ?_
  refine zx_idiv (pc' := 35) jd_Match_nearnessOf_34 (by omega) (by omega) rfl ?_
  refine zx_iret hE jd_Match_nearnessOf_35 rfl ?_
  refine ⟨?_, f1⟩
  unfold nearV
  rw [if_neg (by omega), e]
theorem m_partB (hm : isM o m) (p : Nat) (hp : p < 10) : zRo mi_Match_partnerInB 0 o [.ref m, .int (iI p)] σ (some (.int (iI (iv σ (m + 2) p)))) := by
  refine z_spec (by decide +kernel) (Nat.le_of_ble_eq_true rfl) rfl (fun k hs hR hE => ?_)
  refine jw_iload_n (pc' := 1) jd_Match_partnerInB_0 rfl rfl rfl ?_
  refine zx_if_lt (tgt := 19) (pc' := 4) (by first | exact rg_iv _ _ _ | omega) jd_Match_partnerInB_1 (by decide) rfl (fun q => ?_) (fun q => ?_)
  · exfalso; omega
  refine jw_iload_n (pc' := 5) jd_Match_partnerInB_4 rfl rfl rfl ?_
  refine zx_bipush (pc' := 7) (n := 10) jd_Match_partnerInB_5 (by decide +kernel) rfl ?_
  refine zx_icmp_ge (tgt := 19) (pc' := 10) (by first | exact rg_iv _ _ _ | omega) (by first | exact rg_iv _ _ _ | omega) jd_Match_partnerInB_7 (by decide) rfl (fun q2 => ?_) (fun q2 => ?_)
  · exfalso; omega
  refine jw_aload_n (pc' := 11) jd_Match_partnerInB_10 rfl rfl rfl ?_
  refine jw_get (pc' := 14) (kf := 1) jc_Match (by decide) jq_157 jd_Match_partnerInB_11 (mc_Match _ (by assumption)) rfl rfl ?_
  refine jw_iload_n (pc' := 15) jd_Match_partnerInB_14 rfl rfl rfl ?_
  refine zx_iald (pc' := 16) jd_Match_partnerInB_15 (ml_Match_partnersInB _ (by assumption)) rfl (by omega) (Nat.le_of_ble_eq_true rfl) rfl ?_
  refine jw_goto (tgt := 20) jd_Match_partnerInB_16 (by decide) ?_
  refine zx_iret hE jd_Match_partnerInB_20 rfl ?_
  exact ⟨rfl, rfl⟩
theorem m_partA (hm : isM o m) (p : Nat) (hp : p < 10) : zRo mi_Match_partnerInA 0 o [.ref m, .int (iI p)] σ (some (.int (iI (iv σ (m + 3) p)))) := by
  refine z_spec (by decide +kernel) (Nat.le_of_ble_eq_true rfl) rfl (fun k hs hR hE => ?_)
  refine jw_iload_n (pc' := 1) jd_Match_partnerInA_0 rfl rfl rfl ?_
  refine zx_if_lt (tgt := 19) (pc' := 4) (by first | exact rg_iv _ _ _ | omega) jd_Match_partnerInA_1 (by decide) rfl (fun q => ?_) (fun q => ?_)
  · exfalso; omega
  refine jw_iload_n (pc' := 5) jd_Match_partnerInA_4 rfl rfl rfl ?_
  refine zx_bipush (pc' := 7) (n := 10) jd_Match_partnerInA_5 (by decide +kernel) rfl ?_
  refine zx_icmp_ge (tgt := 19) (pc' := 10) (by first | exact rg_iv _ _ _ | omega) (by first | exact rg_iv _ _ _ | omega) jd_Match_partnerInA_7 (by decide) rfl (fun q2 => ?_) (fun q2 => ?_)
  · exfalso; omega
  refine jw_aload_n (pc' := 11) jd_Match_partnerInA_10 rfl rfl rfl ?_
  refine jw_get (pc' := 14) (kf := 2) jc_Match (by decide) jq_158 jd_Match_partnerInA_11 (mc_Match _ (by assumption)) rfl rfl ?_
  refine jw_iload_n (pc' := 15) jd_Match_partnerInA_14 rfl rfl rfl ?_
  refine zx_iald (pc' := 16) jd_Match_partnerInA_15 (ml_Match_partnersInA _ (by assumption)) rfl (by omega) (Nat.le_of_ble_eq_true rfl) rfl ?_
  refine jw_goto (tgt := 20) jd_Match_partnerInA_16 (by decide) ?_
  refine zx_iret hE jd_Match_partnerInA_20 rfl ?_
  exact ⟨rfl, rfl⟩
theorem m_pairUp (hm : isM o m) (h : VC o σ c a) (h2 : VC o σ d b) (hc : m + 4 ≤ c ∨ c + 2 ≤ m) (hd : m + 4 ≤ d ∨ d + 2 ≤ m) : zSpec mi_Match_pairUp 2 o [.ref m, .ref c, .ref d] σ (fun v s => v = none ∧ (∀ q, q < 10 → iv s (m + 2) q = (pairs a b).1 q) ∧ (∀ q, q < 10 → iv s (m + 3) q = (pairs a b).2 q) ∧ zF σ s (m + 1) 3) := by
  have hcc := h.1
  have hdd := h2.1
  have han := h.2.1.n
  have hbn := h2.2.1.n
  refine z_spec (by decide +kernel) (Nat.le_of_ble_eq_true rfl) rfl (fun k hs hR hE => ?_)
  refine jw_aload_n (pc' := 1) jd_Match_pairUp_0 rfl rfl rfl ?_
  refine jw_aload_n (pc' := 2) jd_Match_pairUp_1 rfl rfl rfl ?_
  refine jw_aload_n (pc' := 3) jd_Match_pairUp_2 rfl rfl rfl ?_
  refine zx_callV (pc' := 6) hR (m_measure hm h h2 hc hd) jm_Match_measure jq_560 jc_Match jd_Match_pairUp_3 (mc_Match _ (by assumption)) rfl rfl (Nat.le_of_ble_eq_true rfl) (by omega) (by decide) rfl (fun v9 s1 q9 => ?_)
  obtain ⟨rfl, h1, f1⟩ := q9
  refine jw_aload_n (pc' := 7) jd_Match_pairUp_6 rfl rfl rfl ?_
  refine jw_get (pc' := 10) (kf := 2) jc_Match (by decide) jq_158 jd_Match_pairUp_7 (mc_Match _ (by assumption)) rfl rfl ?_
  refine zx_iconst (pc' := 11) (n := -1) jd_Match_pairUp_10 rfl ?_
  refine zx_callS (pc' := 14) hR (z_fill (n := 10) (fun s => ml_Match_partnersInA s hm) (by omega) (by omega)) jm_Arrays_fill jq_564 jd_Match_pairUp_11 rfl rfl (Nat.le_of_ble_eq_true rfl) (by omega) (by decide) rfl (fun v9 s2 q9 => ?_)
  obtain ⟨rfl, h4, f2⟩ := q9
  refine jw_aload_n (pc' := 15) jd_Match_pairUp_14 rfl rfl rfl ?_
  refine jw_get (pc' := 18) (kf := 1) jc_Match (by decide) jq_157 jd_Match_pairUp_15 (mc_Match _ (by assumption)) rfl rfl ?_
  refine zx_iconst (pc' := 19) (n := -1) jd_Match_pairUp_18 rfl ?_
  refine zx_callS (pc' := 22) hR (z_fill (n := 10) (fun s => ml_Match_partnersInB s hm) (by omega) (by omega)) jm_Arrays_fill jq_564 jd_Match_pairUp_19 rfl rfl (Nat.le_of_ble_eq_true rfl) (by omega) (by decide) rfl (fun v9 s3 q9 => ?_)
  obtain ⟨rfl, h5, f3⟩ := q9
  refine zx_iconst (pc' := 23) (n := 0) jd_Match_pairUp_22 rfl ?_
  refine jw_istore_n (pc' := 24) (lc' := [(0, _), (1, _), (2, _), (3, _)]) jd_Match_pairUp_23 rfl (Nat.le_of_ble_eq_true rfl) ⟨rfl, rfl, rfl, rfl, trivial⟩ rfl ?_
  refine zx_iconst (pc' := 25) (n := 0) jd_Match_pairUp_24 rfl ?_
  refine jw_istore (pc' := 27) (lc' := [(0, _), (1, _), (2, _), (3, _), (4, _)]) jd_Match_pairUp_25 (Nat.le_of_ble_eq_true rfl) ⟨rfl, rfl, rfl, rfl, rfl, trivial⟩ rfl ?_
  have hF3 : zF σ s3 (m + 1) 3 := ((f1.mono (by omega) (by omega) : zF σ s1 (m + 1) 3).trans f2 (by omega) (by omega)).trans f3 (by omega) (by omega)
  have loop : ∀ (d9 i j : Nat) (s : zS) (F G : Nat → Int), (a.2.1 - i) + (b.2.1 - j) < d9 → i ≤ 10 → j ≤ 10 → (∀ q, q < 121 → iv s (m + 1) q = msT a b q) → (∀ q, q < 10 → iv s (m + 2) q = F q) → (∀ q, q < 10 → iv s (m + 3) q = G q) → pw a b (msT a b) d9 i j F G = pairs a b → zF σ s (m + 1) 3 → jw_X mi_Match_pairUp o k 0 0 27 [(0, .ref m), (1, .ref c), (2, .ref d), (3, .int (iI i)), (4, .int (iI j))] [] (mm o s) hs := by
    intro d9
    induction d9 with
    | zero => intro i j s F G hi; omega
    | succ d9 ih =>
      intro i j s F G hi hi1 hj1 hT hB hA he hF
      have hsA := h.fr hF (by omega)
      have hs2 := h2.fr hF (by omega)
      have ra := h.2.1.2.1 i
      have rb := h2.2.1.2.1 j
      unfold pw at he
      refine jw_iload_n (pc' := 28) jd_Match_pairUp_27 rfl rfl rfl ?_
      refine jw_aload_n (pc' := 29) jd_Match_pairUp_28 rfl rfl rfl ?_
      refine zx_callV0 (pc' := 32) hR (c_length hsA) jm_Content_length jq_559 jc_Content jd_Match_pairUp_29 (mc_Content _ (by assumption)) rfl rfl (Nat.le_of_ble_eq_true rfl) (by omega) (by decide) rfl rfl ?_
      refine zx_icmp_ge (tgt := 126) (pc' := 35) (by first | exact rg_iv _ _ _ | omega) (by first | exact rg_iv _ _ _ | omega) jd_Match_pairUp_32 (by decide) rfl (fun q => ?_) (fun q => ?_)
      · refine zx_vret hE jd_Match_pairUp_126 rfl ?_
        rw [if_neg (by omega)] at he
        refine ⟨rfl, fun q hq => ?_, fun q hq => ?_, hF⟩
        · rw [hB q hq, ← he]
        · rw [hA q hq, ← he]
      refine jw_iload (pc' := 37) jd_Match_pairUp_35 rfl rfl ?_
      refine jw_aload_n (pc' := 38) jd_Match_pairUp_37 rfl rfl rfl ?_
      refine zx_callV0 (pc' := 41) hR (c_length hs2) jm_Content_length jq_559 jc_Content jd_Match_pairUp_38 (mc_Content _ (by assumption)) rfl rfl (Nat.le_of_ble_eq_true rfl) (by omega) (by decide) rfl rfl ?_
      refine zx_icmp_ge (tgt := 126) (pc' := 44) (by first | exact rg_iv _ _ _ | omega) (by first | exact rg_iv _ _ _ | omega) jd_Match_pairUp_41 (by decide) rfl (fun q2 => ?_) (fun q2 => ?_)
      · refine zx_vret hE jd_Match_pairUp_126 rfl ?_
        rw [if_neg (by omega)] at he
        refine ⟨rfl, fun q hq => ?_, fun q hq => ?_, hF⟩
        · rw [hB q hq, ← he]
        · rw [hA q hq, ← he]
      rw [if_pos (by omega)] at he
      refine jw_aload_n (pc' := 45) jd_Match_pairUp_44 rfl rfl rfl ?_
      refine jw_iload_n (pc' := 46) jd_Match_pairUp_45 rfl rfl rfl ?_
      refine zx_callV0 (pc' := 49) hR (c_lineAt hsA i (by omega)) jm_Content_lineAt jq_565 jc_Content jd_Match_pairUp_46 (mc_Content _ (by assumption)) rfl rfl (Nat.le_of_ble_eq_true rfl) (by omega) (by decide) rfl rfl ?_
      refine jw_aload_n (pc' := 50) jd_Match_pairUp_49 rfl rfl rfl ?_
      refine jw_iload (pc' := 52) jd_Match_pairUp_50 rfl rfl ?_
      refine zx_callV0 (pc' := 55) hR (c_lineAt hs2 j (by omega)) jm_Content_lineAt jq_565 jc_Content jd_Match_pairUp_52 (mc_Content _ (by assumption)) rfl rfl (Nat.le_of_ble_eq_true rfl) (by omega) (by decide) rfl rfl ?_
      refine zx_icmp_ne (tgt := 83) (pc' := 58) (by first | exact rg_iv _ _ _ | omega) (by first | exact rg_iv _ _ _ | omega) jd_Match_pairUp_55 (by decide) rfl (fun q3 => ?_) (fun q3 => ?_)
      · skip
        refine jw_aload_n (pc' := 84) jd_Match_pairUp_83 rfl rfl rfl ?_
        refine jw_get (pc' := 87) (kf := 0) jc_Match (by decide) jq_156 jd_Match_pairUp_84 (mc_Match _ (by assumption)) rfl rfl ?_
        refine jw_iload_n (pc' := 88) jd_Match_pairUp_87 rfl rfl rfl ?_
        refine zx_iconst (pc' := 89) (n := 1) jd_Match_pairUp_88 rfl ?_
        refine zx_iadd (pc' := 90) jd_Match_pairUp_89 rfl ?_
        refine zx_bipush (pc' := 92) (n := 11) jd_Match_pairUp_90 (by decide +kernel) rfl ?_
        refine zx_imul (pc' := 93) jd_Match_pairUp_92 rfl ?_
        refine jw_iload (pc' := 95) jd_Match_pairUp_93 rfl rfl ?_
        refine zx_iadd (pc' := 96) jd_Match_pairUp_95 rfl ?_
        refine zx_iald (pc' := 97) (j := (i + 1) * 11 + j) jd_Match_pairUp_96 (ml_Match_common _ (by assumption)) (by omega) (by omega) (Nat.le_of_ble_eq_true rfl) rfl ?_
        refine jw_aload_n (pc' := 98) jd_Match_pairUp_97 rfl rfl rfl ?_
        refine jw_get (pc' := 101) (kf := 0) jc_Match (by decide) jq_156 jd_Match_pairUp_98 (mc_Match _ (by assumption)) rfl rfl ?_
        refine jw_iload_n (pc' := 102) jd_Match_pairUp_101 rfl rfl rfl ?_
        refine zx_bipush (pc' := 104) (n := 11) jd_Match_pairUp_102 (by decide +kernel) rfl ?_
        refine zx_imul (pc' := 105) jd_Match_pairUp_104 rfl ?_
        refine jw_iload (pc' := 107) jd_Match_pairUp_105 rfl rfl ?_
        refine zx_iadd (pc' := 108) jd_Match_pairUp_107 rfl ?_
        refine zx_iconst (pc' := 109) (n := 1) jd_Match_pairUp_108 rfl ?_
        refine zx_iadd (pc' := 110) jd_Match_pairUp_109 rfl ?_
        refine zx_iald (pc' := 111) (j := i * 11 + j + 1) jd_Match_pairUp_110 (ml_Match_common _ (by assumption)) (by omega) (by omega) (Nat.le_of_ble_eq_true rfl) rfl ?_
        refine zx_icmp_lt (tgt := 120) (pc' := 114) (by first | exact rg_iv _ _ _ | omega) (by first | exact rg_iv _ _ _ | omega) jd_Match_pairUp_111 (by decide) rfl (fun q4 => ?_) (fun q4 => ?_)
        · refine zx_iinc (pc' := 123) (lc' := [(0, _), (1, _), (2, _), (3, _), (4, _)]) jd_Match_pairUp_120 rfl (Nat.le_of_ble_eq_true rfl) ⟨rfl, rfl, rfl, rfl, rfl, trivial⟩ rfl ?_
          refine jw_goto (tgt := 27) jd_Match_pairUp_123 (by decide) ?_
          rw [hT _ (by omega), hT _ (by omega)] at q4
          rw [if_neg q3, if_neg (by omega)] at he
          exact ih i (j + 1) s F G (by omega) (by omega) (by omega) hT hB hA he hF
        · refine zx_iinc (pc' := 117) (lc' := [(0, _), (1, _), (2, _), (3, _), (4, _)]) jd_Match_pairUp_114 rfl (Nat.le_of_ble_eq_true rfl) ⟨rfl, rfl, rfl, rfl, rfl, trivial⟩ rfl ?_
          refine jw_goto (tgt := 27) jd_Match_pairUp_117 (by decide) ?_
          rw [hT _ (by omega), hT _ (by omega)] at q4
          rw [if_neg q3, if_pos (by omega)] at he
          exact ih (i + 1) j s F G (by omega) (by omega) (by omega) hT hB hA he hF
      · refine jw_aload_n (pc' := 59) jd_Match_pairUp_58 rfl rfl rfl ?_
        refine jw_get (pc' := 62) (kf := 1) jc_Match (by decide) jq_157 jd_Match_pairUp_59 (mc_Match _ (by assumption)) rfl rfl ?_
        refine jw_iload_n (pc' := 63) jd_Match_pairUp_62 rfl rfl rfl ?_
        refine jw_iload (pc' := 65) jd_Match_pairUp_63 rfl rfl ?_
        refine zx_iast (pc' := 66) jd_Match_pairUp_65 (ml_Match_partnersInB _ (by assumption)) rfl (by omega) (Nat.le_of_ble_eq_true rfl) rfl ?_
        refine jw_aload_n (pc' := 67) jd_Match_pairUp_66 rfl rfl rfl ?_
        refine jw_get (pc' := 70) (kf := 2) jc_Match (by decide) jq_158 jd_Match_pairUp_67 (mc_Match _ (by assumption)) rfl rfl ?_
        refine jw_iload (pc' := 72) jd_Match_pairUp_70 rfl rfl ?_
        refine jw_iload_n (pc' := 73) jd_Match_pairUp_72 rfl rfl rfl ?_
        refine zx_iast (pc' := 74) jd_Match_pairUp_73 (ml_Match_partnersInA _ (by assumption)) rfl (by omega) (Nat.le_of_ble_eq_true rfl) rfl ?_
        refine zx_iinc (pc' := 77) (lc' := [(0, _), (1, _), (2, _), (3, _), (4, _)]) jd_Match_pairUp_74 rfl (Nat.le_of_ble_eq_true rfl) ⟨rfl, rfl, rfl, rfl, rfl, trivial⟩ rfl ?_
        refine zx_iinc (pc' := 80) (lc' := [(0, _), (1, _), (2, _), (3, _), (4, _)]) jd_Match_pairUp_77 rfl (Nat.le_of_ble_eq_true rfl) ⟨rfl, rfl, rfl, rfl, rfl, trivial⟩ rfl ?_
        refine jw_goto (tgt := 27) jd_Match_pairUp_80 (by decide) ?_
        rw [if_pos q3] at he
        refine ih (i + 1) (j + 1) _ _ _ (by omega) (by omega) (by omega) (fun q hq => ?_) (fun q hq => ?_) (fun q hq => ?_) he ((hF.si (by omega)).si (by omega))
        · rw [iv_si (by omega), if_neg (by omega), iv_si (by omega), if_neg (by omega)]; exact hT q hq
        · rw [iv_si (by omega), if_neg (by omega), iv_si (by omega)]
          by_cases q9 : q = i
          · rw [if_pos ⟨rfl, q9⟩, if_pos q9]
          · rw [if_neg (fun z => q9 z.2), if_neg q9]; exact hB q hq
        · rw [iv_si (by omega)]
          by_cases q9 : q = j
          · rw [if_pos ⟨rfl, q9⟩, if_pos q9]
          · rw [if_neg (fun z => q9 z.2), if_neg q9, iv_si (by omega), if_neg (by omega)]; exact hA q hq
  refine loop 21 0 0 s3 (fun _ => -1) (fun _ => -1) (by omega) (by omega) (by omega) (fun q hq => ?_) h5 (fun q hq => ?_) rfl hF3
  · rw [iv_cell (f3 _ (by omega)), iv_cell (f2 _ (by omega))]; exact h1 q hq
  · rw [iv_cell (f3 _ (by omega))]; exact h4 q hq
end
end
section
theorem jd_Renames_nearest_0 : decode mi_Renames_nearest.2.1 0 = .ok (.iconst (-1), 1) := by decide +kernel
theorem jd_Renames_nearest_1 : decode mi_Renames_nearest.2.1 1 = .ok (.istore 4, 2) := by decide +kernel
theorem jd_Renames_nearest_3 : decode mi_Renames_nearest.2.1 3 = .ok (.bipush 59, 2) := by decide +kernel
theorem jd_Renames_nearest_5 : decode mi_Renames_nearest.2.1 5 = .ok (.istore 5, 2) := by decide +kernel
theorem jd_Renames_nearest_7 : decode mi_Renames_nearest.2.1 7 = .ok (.iconst 0, 1) := by decide +kernel
theorem jd_Renames_nearest_8 : decode mi_Renames_nearest.2.1 8 = .ok (.istore 6, 2) := by decide +kernel
theorem jd_Renames_nearest_10 : decode mi_Renames_nearest.2.1 10 = .ok (.iload 6, 2) := by decide +kernel
theorem jd_Renames_nearest_12 : decode mi_Renames_nearest.2.1 12 = .ok (.bipush 12, 2) := by decide +kernel
theorem jd_Renames_nearest_14 : decode mi_Renames_nearest.2.1 14 = .ok (.if_icmp .ge 73, 3) := by decide +kernel
theorem jd_Renames_nearest_17 : decode mi_Renames_nearest.2.1 17 = .ok (.aload_n 3, 1) := by decide +kernel
theorem jd_Renames_nearest_18 : decode mi_Renames_nearest.2.1 18 = .ok (.iload 6, 2) := by decide +kernel
theorem jd_Renames_nearest_20 : decode mi_Renames_nearest.2.1 20 = .ok (.invokevirtual 35, 3) := by decide +kernel
theorem jd_Renames_nearest_23 : decode mi_Renames_nearest.2.1 23 = .ok (.ifCond .eq 58, 3) := by decide +kernel
theorem jd_Renames_nearest_26 : decode mi_Renames_nearest.2.1 26 = .ok (.aload_n 1, 1) := by decide +kernel
theorem jd_Renames_nearest_27 : decode mi_Renames_nearest.2.1 27 = .ok (.iload 6, 2) := by decide +kernel
theorem jd_Renames_nearest_29 : decode mi_Renames_nearest.2.1 29 = .ok (.invokevirtual 35, 3) := by decide +kernel
theorem jd_Renames_nearest_32 : decode mi_Renames_nearest.2.1 32 = .ok (.ifCond .ne 49, 3) := by decide +kernel
theorem jd_Renames_nearest_35 : decode mi_Renames_nearest.2.1 35 = .ok (.aload_n 0, 1) := by decide +kernel
theorem jd_Renames_nearest_36 : decode mi_Renames_nearest.2.1 36 = .ok (.getfield 15, 3) := by decide +kernel
theorem jd_Renames_nearest_39 : decode mi_Renames_nearest.2.1 39 = .ok (.iload 6, 2) := by decide +kernel
theorem jd_Renames_nearest_41 : decode mi_Renames_nearest.2.1 41 = .ok (.iaload, 1) := by decide +kernel
theorem jd_Renames_nearest_42 : decode mi_Renames_nearest.2.1 42 = .ok (.iconst (-1), 1) := by decide +kernel
theorem jd_Renames_nearest_43 : decode mi_Renames_nearest.2.1 43 = .ok (.if_icmp .ne 38, 3) := by decide +kernel
theorem jd_Renames_nearest_46 : decode mi_Renames_nearest.2.1 46 = .ok (.aload_n 0, 1) := by decide +kernel
theorem jd_Renames_nearest_47 : decode mi_Renames_nearest.2.1 47 = .ok (.getfield 21, 3) := by decide +kernel
theorem jd_Renames_nearest_50 : decode mi_Renames_nearest.2.1 50 = .ok (.aload_n 1, 1) := by decide +kernel
theorem jd_Renames_nearest_51 : decode mi_Renames_nearest.2.1 51 = .ok (.iload_n 2, 1) := by decide +kernel
theorem jd_Renames_nearest_52 : decode mi_Renames_nearest.2.1 52 = .ok (.invokevirtual 45, 3) := by decide +kernel
theorem jd_Renames_nearest_55 : decode mi_Renames_nearest.2.1 55 = .ok (.aload_n 3, 1) := by decide +kernel
theorem jd_Renames_nearest_56 : decode mi_Renames_nearest.2.1 56 = .ok (.iload 6, 2) := by decide +kernel
theorem jd_Renames_nearest_58 : decode mi_Renames_nearest.2.1 58 = .ok (.invokevirtual 45, 3) := by decide +kernel
theorem jd_Renames_nearest_61 : decode mi_Renames_nearest.2.1 61 = .ok (.invokevirtual 49, 3) := by decide +kernel
theorem jd_Renames_nearest_64 : decode mi_Renames_nearest.2.1 64 = .ok (.istore 7, 2) := by decide +kernel
theorem jd_Renames_nearest_66 : decode mi_Renames_nearest.2.1 66 = .ok (.iload 7, 2) := by decide +kernel
theorem jd_Renames_nearest_68 : decode mi_Renames_nearest.2.1 68 = .ok (.iload 5, 2) := by decide +kernel
theorem jd_Renames_nearest_70 : decode mi_Renames_nearest.2.1 70 = .ok (.if_icmp .le 11, 3) := by decide +kernel
theorem jd_Renames_nearest_73 : decode mi_Renames_nearest.2.1 73 = .ok (.iload 6, 2) := by decide +kernel
theorem jd_Renames_nearest_75 : decode mi_Renames_nearest.2.1 75 = .ok (.istore 4, 2) := by decide +kernel
theorem jd_Renames_nearest_77 : decode mi_Renames_nearest.2.1 77 = .ok (.iload 7, 2) := by decide +kernel
theorem jd_Renames_nearest_79 : decode mi_Renames_nearest.2.1 79 = .ok (.istore 5, 2) := by decide +kernel
theorem jd_Renames_nearest_81 : decode mi_Renames_nearest.2.1 81 = .ok (.iinc 6 1, 3) := by decide +kernel
theorem jd_Renames_nearest_84 : decode mi_Renames_nearest.2.1 84 = .ok (.goto (-74), 3) := by decide +kernel
theorem jd_Renames_nearest_87 : decode mi_Renames_nearest.2.1 87 = .ok (.iload 4, 2) := by decide +kernel
theorem jd_Renames_nearest_89 : decode mi_Renames_nearest.2.1 89 = .ok (.ifCond .lt 28, 3) := by decide +kernel
theorem jd_Renames_nearest_92 : decode mi_Renames_nearest.2.1 92 = .ok (.iload 4, 2) := by decide +kernel
theorem jd_Renames_nearest_94 : decode mi_Renames_nearest.2.1 94 = .ok (.bipush 12, 2) := by decide +kernel
theorem jd_Renames_nearest_96 : decode mi_Renames_nearest.2.1 96 = .ok (.if_icmp .ge 21, 3) := by decide +kernel
theorem jd_Renames_nearest_99 : decode mi_Renames_nearest.2.1 99 = .ok (.aload_n 0, 1) := by decide +kernel
theorem jd_Renames_nearest_100 : decode mi_Renames_nearest.2.1 100 = .ok (.getfield 15, 3) := by decide +kernel
theorem jd_Renames_nearest_103 : decode mi_Renames_nearest.2.1 103 = .ok (.iload 4, 2) := by decide +kernel
theorem jd_Renames_nearest_105 : decode mi_Renames_nearest.2.1 105 = .ok (.iload_n 2, 1) := by decide +kernel
theorem jd_Renames_nearest_106 : decode mi_Renames_nearest.2.1 106 = .ok (.iastore, 1) := by decide +kernel
theorem jd_Renames_nearest_107 : decode mi_Renames_nearest.2.1 107 = .ok (.aload_n 0, 1) := by decide +kernel
theorem jd_Renames_nearest_108 : decode mi_Renames_nearest.2.1 108 = .ok (.dup, 1) := by decide +kernel
theorem jd_Renames_nearest_109 : decode mi_Renames_nearest.2.1 109 = .ok (.getfield 25, 3) := by decide +kernel
theorem jd_Renames_nearest_112 : decode mi_Renames_nearest.2.1 112 = .ok (.iconst 1, 1) := by decide +kernel
theorem jd_Renames_nearest_113 : decode mi_Renames_nearest.2.1 113 = .ok (.iadd, 1) := by decide +kernel
theorem jd_Renames_nearest_114 : decode mi_Renames_nearest.2.1 114 = .ok (.putfield 25, 3) := by decide +kernel
theorem jd_Renames_nearest_117 : decode mi_Renames_nearest.2.1 117 = .ok (.iload 4, 2) := by decide +kernel
theorem jd_Renames_nearest_119 : decode mi_Renames_nearest.2.1 119 = .ok (.ireturn, 1) := by decide +kernel
theorem jd_Renames_trace_0 : decode mi_Renames_trace.2.1 0 = .ok (.aload_n 0, 1) := by decide +kernel
theorem jd_Renames_trace_1 : decode mi_Renames_trace.2.1 1 = .ok (.getfield 9, 3) := by decide +kernel
theorem jd_Renames_trace_4 : decode mi_Renames_trace.2.1 4 = .ok (.iconst (-1), 1) := by decide +kernel
theorem jd_Renames_trace_5 : decode mi_Renames_trace.2.1 5 = .ok (.invokestatic 29, 3) := by decide +kernel
theorem jd_Renames_trace_8 : decode mi_Renames_trace.2.1 8 = .ok (.aload_n 0, 1) := by decide +kernel
theorem jd_Renames_trace_9 : decode mi_Renames_trace.2.1 9 = .ok (.getfield 15, 3) := by decide +kernel
theorem jd_Renames_trace_12 : decode mi_Renames_trace.2.1 12 = .ok (.iconst (-1), 1) := by decide +kernel
theorem jd_Renames_trace_13 : decode mi_Renames_trace.2.1 13 = .ok (.invokestatic 29, 3) := by decide +kernel
theorem jd_Renames_trace_16 : decode mi_Renames_trace.2.1 16 = .ok (.aload_n 0, 1) := by decide +kernel
theorem jd_Renames_trace_17 : decode mi_Renames_trace.2.1 17 = .ok (.iconst 0, 1) := by decide +kernel
theorem jd_Renames_trace_18 : decode mi_Renames_trace.2.1 18 = .ok (.putfield 25, 3) := by decide +kernel
theorem jd_Renames_trace_21 : decode mi_Renames_trace.2.1 21 = .ok (.iconst 0, 1) := by decide +kernel
theorem jd_Renames_trace_22 : decode mi_Renames_trace.2.1 22 = .ok (.istore_n 3, 1) := by decide +kernel
theorem jd_Renames_trace_23 : decode mi_Renames_trace.2.1 23 = .ok (.iload_n 3, 1) := by decide +kernel
theorem jd_Renames_trace_24 : decode mi_Renames_trace.2.1 24 = .ok (.bipush 12, 2) := by decide +kernel
theorem jd_Renames_trace_26 : decode mi_Renames_trace.2.1 26 = .ok (.if_icmp .ge 42, 3) := by decide +kernel
theorem jd_Renames_trace_29 : decode mi_Renames_trace.2.1 29 = .ok (.aload_n 1, 1) := by decide +kernel
theorem jd_Renames_trace_30 : decode mi_Renames_trace.2.1 30 = .ok (.iload_n 3, 1) := by decide +kernel
theorem jd_Renames_trace_31 : decode mi_Renames_trace.2.1 31 = .ok (.invokevirtual 35, 3) := by decide +kernel
theorem jd_Renames_trace_34 : decode mi_Renames_trace.2.1 34 = .ok (.ifCond .eq 28, 3) := by decide +kernel
theorem jd_Renames_trace_37 : decode mi_Renames_trace.2.1 37 = .ok (.aload_n 0, 1) := by decide +kernel
theorem jd_Renames_trace_38 : decode mi_Renames_trace.2.1 38 = .ok (.getfield 9, 3) := by decide +kernel
theorem jd_Renames_trace_41 : decode mi_Renames_trace.2.1 41 = .ok (.iload_n 3, 1) := by decide +kernel
theorem jd_Renames_trace_42 : decode mi_Renames_trace.2.1 42 = .ok (.aload_n 2, 1) := by decide +kernel
theorem jd_Renames_trace_43 : decode mi_Renames_trace.2.1 43 = .ok (.iload_n 3, 1) := by decide +kernel
theorem jd_Renames_trace_44 : decode mi_Renames_trace.2.1 44 = .ok (.invokevirtual 35, 3) := by decide +kernel
theorem jd_Renames_trace_47 : decode mi_Renames_trace.2.1 47 = .ok (.ifCond .eq 7, 3) := by decide +kernel
theorem jd_Renames_trace_50 : decode mi_Renames_trace.2.1 50 = .ok (.iload_n 3, 1) := by decide +kernel
theorem jd_Renames_trace_51 : decode mi_Renames_trace.2.1 51 = .ok (.goto 10, 3) := by decide +kernel
theorem jd_Renames_trace_54 : decode mi_Renames_trace.2.1 54 = .ok (.aload_n 0, 1) := by decide +kernel
theorem jd_Renames_trace_55 : decode mi_Renames_trace.2.1 55 = .ok (.aload_n 1, 1) := by decide +kernel
theorem jd_Renames_trace_56 : decode mi_Renames_trace.2.1 56 = .ok (.iload_n 3, 1) := by decide +kernel
theorem jd_Renames_trace_57 : decode mi_Renames_trace.2.1 57 = .ok (.aload_n 2, 1) := by decide +kernel
theorem jd_Renames_trace_58 : decode mi_Renames_trace.2.1 58 = .ok (.invokevirtual 41, 3) := by decide +kernel
theorem jd_Renames_trace_61 : decode mi_Renames_trace.2.1 61 = .ok (.iastore, 1) := by decide +kernel
theorem jd_Renames_trace_62 : decode mi_Renames_trace.2.1 62 = .ok (.iinc 3 1, 3) := by decide +kernel
theorem jd_Renames_trace_65 : decode mi_Renames_trace.2.1 65 = .ok (.goto (-42), 3) := by decide +kernel
theorem jd_Renames_trace_68 : decode mi_Renames_trace.2.1 68 = .ok (.return_, 1) := by decide +kernel
theorem jd_Renames_fateOf_0 : decode mi_Renames_fateOf.2.1 0 = .ok (.iload_n 1, 1) := by decide +kernel
theorem jd_Renames_fateOf_1 : decode mi_Renames_fateOf.2.1 1 = .ok (.ifCond .lt 18, 3) := by decide +kernel
theorem jd_Renames_fateOf_4 : decode mi_Renames_fateOf.2.1 4 = .ok (.iload_n 1, 1) := by decide +kernel
theorem jd_Renames_fateOf_5 : decode mi_Renames_fateOf.2.1 5 = .ok (.bipush 12, 2) := by decide +kernel
theorem jd_Renames_fateOf_7 : decode mi_Renames_fateOf.2.1 7 = .ok (.if_icmp .ge 12, 3) := by decide +kernel
theorem jd_Renames_fateOf_10 : decode mi_Renames_fateOf.2.1 10 = .ok (.aload_n 0, 1) := by decide +kernel
theorem jd_Renames_fateOf_11 : decode mi_Renames_fateOf.2.1 11 = .ok (.getfield 9, 3) := by decide +kernel
theorem jd_Renames_fateOf_14 : decode mi_Renames_fateOf.2.1 14 = .ok (.iload_n 1, 1) := by decide +kernel
theorem jd_Renames_fateOf_15 : decode mi_Renames_fateOf.2.1 15 = .ok (.iaload, 1) := by decide +kernel
theorem jd_Renames_fateOf_16 : decode mi_Renames_fateOf.2.1 16 = .ok (.goto 4, 3) := by decide +kernel
theorem jd_Renames_fateOf_19 : decode mi_Renames_fateOf.2.1 19 = .ok (.iconst (-1), 1) := by decide +kernel
theorem jd_Renames_fateOf_20 : decode mi_Renames_fateOf.2.1 20 = .ok (.ireturn, 1) := by decide +kernel
theorem jd_Renames_sourceOf_0 : decode mi_Renames_sourceOf.2.1 0 = .ok (.iload_n 1, 1) := by decide +kernel
theorem jd_Renames_sourceOf_1 : decode mi_Renames_sourceOf.2.1 1 = .ok (.ifCond .lt 18, 3) := by decide +kernel
theorem jd_Renames_sourceOf_4 : decode mi_Renames_sourceOf.2.1 4 = .ok (.iload_n 1, 1) := by decide +kernel
theorem jd_Renames_sourceOf_5 : decode mi_Renames_sourceOf.2.1 5 = .ok (.bipush 12, 2) := by decide +kernel
theorem jd_Renames_sourceOf_7 : decode mi_Renames_sourceOf.2.1 7 = .ok (.if_icmp .ge 12, 3) := by decide +kernel
theorem jd_Renames_sourceOf_10 : decode mi_Renames_sourceOf.2.1 10 = .ok (.aload_n 0, 1) := by decide +kernel
theorem jd_Renames_sourceOf_11 : decode mi_Renames_sourceOf.2.1 11 = .ok (.getfield 15, 3) := by decide +kernel
theorem jd_Renames_sourceOf_14 : decode mi_Renames_sourceOf.2.1 14 = .ok (.iload_n 1, 1) := by decide +kernel
theorem jd_Renames_sourceOf_15 : decode mi_Renames_sourceOf.2.1 15 = .ok (.iaload, 1) := by decide +kernel
theorem jd_Renames_sourceOf_16 : decode mi_Renames_sourceOf.2.1 16 = .ok (.goto 4, 3) := by decide +kernel
theorem jd_Renames_sourceOf_19 : decode mi_Renames_sourceOf.2.1 19 = .ok (.iconst (-1), 1) := by decide +kernel
theorem jd_Renames_sourceOf_20 : decode mi_Renames_sourceOf.2.1 20 = .ok (.ireturn, 1) := by decide +kernel
theorem jd_Renames_howMany_0 : decode mi_Renames_howMany.2.1 0 = .ok (.aload_n 0, 1) := by decide +kernel
theorem jd_Renames_howMany_1 : decode mi_Renames_howMany.2.1 1 = .ok (.getfield 25, 3) := by decide +kernel
theorem jd_Renames_howMany_4 : decode mi_Renames_howMany.2.1 4 = .ok (.ireturn, 1) := by decide +kernel
/-! what became of the paths of one tree in another one -/
theorem it_inv {α : Type} {f : Nat → α → α} {N : Nat} {Q : Nat → α → Prop} (hf : ∀ i s, i < N → Q i s → Q (i + 1) (f i s)) : ∀ (d i : Nat) (s : α), i + d = N → Q i s → Q N (it f d i s)
  | 0, i, s, h, hq => by rw [← h]; exact hq
  | d + 1, i, s, h, hq => it_inv hf d (i + 1) _ (by omega) (hf i s (by omega) hq)
def sm (f : Nat → Int) : Nat → Int
  | 0 => 0
  | n + 1 => sm f n + f n
theorem sm_congr {f g : Nat → Int} : ∀ {n : Nat}, (∀ k, k < n → f k = g k) → sm f n = sm g n
  | 0, _ => rfl
  | n + 1, h => by unfold sm; rw [sm_congr (n := n) (fun k hk => h k (by omega)), h n (by omega)]
theorem nearV_rng {a b : zV} (ha : okV a) (hb : okV b) : 0 ≤ nearV a b ∧ nearV a b ≤ 2000 := by
  have g := msT_rng ha hb 0
  unfold nearV
  split
  · omega
  · have h1 : 0 ≤ 200 * msT a b 0 / ((a.2.1 : Int) + b.2.1) := Int.ediv_nonneg (by omega) (by omega)
    have h2 : 200 * msT a b 0 / ((a.2.1 : Int) + b.2.1) ≤ 200 * msT a b 0 := Int.ediv_le_self _ (by omega)
    omega
def neStep (A B : zT) (S : Nat → Int) (p : Nat) (other : Nat) (u : Int × Int) : Int × Int := if (B other).1 = 0 then u else if ¬ (A other).1 = 0 then u else if ¬ S other = -1 then u else if u.2 < nearV (A p) (B other) then ((other : Int), nearV (A p) (B other)) else u
def neF (A B : zT) (S : Nat → Int) (p : Nat) : Int × Int := it (neStep A B S p) 12 0 (-1, 59)
def neP (A B : zT) (S : Nat → Int) (u : Int × Int) : Prop := 59 ≤ u.2 ∧ u.2 ≤ 2000 ∧ (u.1 = -1 ∨ ∃ q : Nat, q < 12 ∧ u.1 = q ∧ ¬ (B q).1 = 0 ∧ (A q).1 = 0 ∧ S q = -1)
theorem neP.lo {A B : zT} {S : Nat → Int} {u : Int × Int} (h : neP A B S u) : -1 ≤ u.1 ∧ u.1 ≤ 11 := by
  obtain ⟨-, -, h | ⟨q, hq, h, -⟩⟩ := h <;> omega
theorem neStep_P {A B : zT} {S : Nat → Int} {p : Nat} (hA : ∀ p, p < 12 → okV (A p)) (hB : ∀ p, p < 12 → okV (B p)) (hp : p < 12) (i : Nat) (u : Int × Int) (hi : i < 12) (h : neP A B S u) : neP A B S (neStep A B S p i u) := by
  unfold neStep
  split
  · exact h
  · split
    · exact h
    · split
      · exact h
      · split
        · rename_i h1 h2 h3 h4
          have g := nearV_rng (hA p hp) (hB i hi)
          exact ⟨by show 59 ≤ nearV _ _; have := h.1; omega, g.2, Or.inr ⟨i, hi, rfl, h1, by omega, by omega⟩⟩
        · exact h
theorem neF_P {A B : zT} {S : Nat → Int} {p : Nat} (hA : ∀ p, p < 12 → okV (A p)) (hB : ∀ p, p < 12 → okV (B p)) (hp : p < 12) : neP A B S (neF A B S p) := it_inv (N := 12) (Q := fun _ u => neP A B S u) (fun i s hi h => neStep_P hA hB hp i s hi h) 12 0 (-1, 59) rfl ⟨by show (59 : Int) ≤ 59; omega, by show (59 : Int) ≤ 2000; omega, Or.inl rfl⟩
abbrev zN : Type := (Nat → Int) × (Nat → Int) × Int
def trStep (A B : zT) (p : Nat) (u : zN) : zN := if (A p).1 = 0 then u else if ¬ (B p).1 = 0 then ((fun q => if q = p then (p : Int) else u.1 q), u.2.1, u.2.2) else ((fun q => if q = p then (neF A B u.2.1 p).1 else u.1 q), (fun q => if (q : Int) = (neF A B u.2.1 p).1 then (p : Int) else u.2.1 q), if (neF A B u.2.1 p).1 = -1 then u.2.2 else u.2.2 + 1)
def trF (A B : zT) : zN := it (trStep A B) 12 0 (fun _ => -1, fun _ => -1, 0)
/-- whether a path went elsewhere -/
def moved (F : Nat → Int) (p : Nat) : Int := if 0 ≤ F p ∧ ¬ F p = p then 1 else 0
def trP (A B : zT) (i : Nat) (u : zN) : Prop := (∀ q, -1 ≤ u.1 q ∧ u.1 q ≤ 11) ∧ (∀ q, -1 ≤ u.2.1 q ∧ u.2.1 q ≤ 11) ∧ 0 ≤ u.2.2 ∧ u.2.2 ≤ i ∧ u.2.2 = sm (moved u.1) i ∧ (∀ p, p < 12 → (A p).1 = 0 → u.1 p = -1) ∧ (∀ p, p < 12 → ∀ q : Nat, u.1 p = q → ¬ (B q).1 = 0) ∧ (∀ p, p < i → ¬ (A p).1 = 0 → ¬ (B p).1 = 0 → u.1 p = p) ∧ ∀ p, i ≤ p → u.1 p = -1
theorem trStep_P {A B : zT} (hA : ∀ p, p < 12 → okV (A p)) (hB : ∀ p, p < 12 → okV (B p)) (i : Nat) (u : zN) (hi : i < 12) (h : trP A B i u) : trP A B (i + 1) (trStep A B i u) := by
  obtain ⟨F, S, n⟩ := u
  obtain ⟨h1, h2, h3, h4, h5, h6, h7, h8, h9⟩ := h
  simp only at h1 h2 h3 h4 h5 h6 h7 h8 h9
  have hn := neF_P (S := S) hA hB hi
  have hlo := hn.lo
  have hsm : ∀ v : Int, sm (moved (fun q => if q = i then v else F q)) i = n := fun v => by
    rw [h5]; exact sm_congr (fun k hk => by unfold moved; rw [show (fun q => if q = i then v else F q) k = F k from if_neg (by omega)])
  unfold trStep
  split
  · rename_i g1
    refine ⟨h1, h2, h3, by simp only; omega, ?_, h6, h7, fun p hp => ?_, fun p hp => h9 p (by omega)⟩
    · show n = sm (moved F) (i + 1)
      have : moved F i = 0 := by unfold moved; rw [h9 i (by omega)]; simp
      unfold sm; rw [← h5, this]; omega
    · by_cases q : p = i
      · rw [q]; intro z; exact absurd g1 z
      · exact h8 p (by omega)
  · split
    · rename_i g1 g2
      refine ⟨fun q => ?_, h2, h3, by simp only; omega, ?_, fun p hp => ?_, fun p hp q => ?_, fun p hp => ?_, fun p hp => ?_⟩
      · simp only; split
        · omega
        · exact h1 q
      · show n = sm (moved _) (i + 1)
        have : moved (fun q => if q = i then (i : Int) else F q) i = 0 := by unfold moved; simp
        unfold sm; rw [hsm, this]; omega
      · by_cases q : p = i
        · rw [q]; intro z; exact absurd z g1
        · simp only; rw [if_neg q]; exact h6 p hp
      · by_cases q9 : p = i
        · simp only; rw [if_pos q9]; intro z; rw [show q = i by omega]; exact g2
        · simp only; rw [if_neg q9]; exact h7 p hp q
      · by_cases q : p = i
        · intro _ _; simp only; rw [if_pos q, q]
        · simp only; rw [if_neg q]; exact h8 p (by omega)
      · simp only; rw [if_neg (by omega)]; exact h9 p (by omega)
    · rename_i g1 g2
      refine ⟨fun q => ?_, fun q => ?_, ?_, ?_, ?_, fun p hp => ?_, fun p hp q => ?_, fun p hp => ?_, fun p hp => ?_⟩
      · simp only; split
        · exact hlo
        · exact h1 q
      · simp only; split
        · omega
        · exact h2 q
      · simp only; split <;> omega
      · simp only; split <;> omega
      · show (if (neF A B S i).1 = -1 then n else n + 1) = sm (moved _) (i + 1)
        unfold sm
        rw [hsm]
        unfold moved
        simp only [if_true]
        obtain ⟨-, -, hx | ⟨q, hq, hx, hb, ha, -⟩⟩ := hn
        · rw [hx]; simp
        · have hqi : ¬ q = i := fun z => g1 (by rw [← z]; exact ha)
          rw [hx, if_neg (by omega), if_pos (by omega)]
      · by_cases q : p = i
        · rw [q]; intro z; exact absurd z g1
        · simp only; rw [if_neg q]; exact h6 p hp
      · by_cases q9 : p = i
        · simp only; rw [if_pos q9]; intro z
          obtain ⟨-, -, hx | ⟨q2, hq2, hx, hb, -⟩⟩ := hn
          · omega
          · rw [show q = q2 by omega]; exact hb
        · simp only; rw [if_neg q9]; exact h7 p hp q
      · by_cases q : p = i
        · rw [q]; intro _ z; exact absurd z g2
        · simp only; rw [if_neg q]; exact h8 p (by omega)
      · simp only; rw [if_neg (by omega)]; exact h9 p (by omega)
theorem tr0_P {A B : zT} : trP A B 0 (fun _ => -1, fun _ => -1, 0) := ⟨fun q => by simp, fun q => by simp, by simp, by simp, rfl, fun _ _ _ => rfl, fun p hp q z => by simp only at z; omega, fun p hp => absurd hp (by omega), fun _ _ => rfl⟩
theorem trF_P {A B : zT} (hA : ∀ p, p < 12 → okV (A p)) (hB : ∀ p, p < 12 → okV (B p)) : trP A B 12 (trF A B) := it_inv (N := 12) (fun i s hi h => trStep_P hA hB i s hi h) 12 0 _ rfl tr0_P
def RC (o : jw_O) (σ : zS) (r : Nat) (u : zN) : Prop := isR o r ∧ (∀ q, q < 12 → iv σ (r + 1) q = u.1 q) ∧ (∀ q, q < 12 → iv σ (r + 2) q = u.2.1 q) ∧ iv σ r 3 = u.2.2
theorem RC.fr {o : jw_O} {σ σ' : zS} {r b m : Nat} {u : zN} (h : RC o σ r u) (f : zF σ σ' b m) (hd : r + 7 ≤ b ∨ b + m ≤ r) : RC o σ' r u := ⟨h.1, fun q hq => (iv_cell (f _ (by omega)) q).trans (h.2.1 q hq), fun q hq => (iv_cell (f _ (by omega)) q).trans (h.2.2.1 q hq), (iv_cell (f _ (by omega)) _).trans h.2.2.2⟩
section
variable {o : jw_O} {σ : zS} {r t1 t2 : Nat} {A B : zT}
theorem r_nearest {u : zN} (hr : RC o σ r u) (hA : TC o σ t1 A) (hB : TC o σ t2 B) (hd1 : r + 7 ≤ t1 ∨ t1 + 28 ≤ r) (hd2 : r + 7 ≤ t2 ∨ t2 + 28 ≤ r) (p : Nat) (hp : p < 12) (hn : 0 ≤ u.2.2 ∧ u.2.2 ≤ 100) : zSpec mi_Renames_nearest 3 o [.ref r, .ref t1, .int (iI p), .ref t2] σ (fun v s => v = some (.int (iI (neF A B u.2.1 p).1)) ∧ (∀ q, q < 12 → iv s (r + 2) q = if (q : Int) = (neF A B u.2.1 p).1 then (p : Int) else u.2.1 q) ∧ iv s r 3 = (if (neF A B u.2.1 p).1 = -1 then u.2.2 else u.2.2 + 1) ∧ s (r + 1) = σ (r + 1) ∧ zF σ s r 7) := by
  obtain ⟨hrr, hr1, hr2, hr3⟩ := hr
  have hAA := hA.1
  have hBB := hB.1
  have okA : ∀ p, p < 12 → okV (A p) := fun p hp => (hA.2 p hp).2.1
  have okB : ∀ p, p < 12 → okV (B p) := fun p hp => (hB.2 p hp).2.1
  have hmm := hrr.m
  refine z_spec (by decide +kernel) (Nat.le_of_ble_eq_true rfl) rfl (fun k hs hR hE => ?_)
  refine zx_iconst (pc' := 1) (n := -1) jd_Renames_nearest_0 rfl ?_
  refine jw_istore (pc' := 3) (lc' := [(0, _), (1, _), (2, _), (3, _), (4, _)]) jd_Renames_nearest_1 (Nat.le_of_ble_eq_true rfl) ⟨rfl, rfl, rfl, rfl, rfl, trivial⟩ rfl ?_
  refine zx_bipush (pc' := 5) (n := 59) jd_Renames_nearest_3 (by decide +kernel) rfl ?_
  refine jw_istore (pc' := 7) (lc' := [(0, _), (1, _), (2, _), (3, _), (4, _), (5, _)]) jd_Renames_nearest_5 (Nat.le_of_ble_eq_true rfl) ⟨rfl, rfl, rfl, rfl, rfl, rfl, trivial⟩ rfl ?_
  refine zx_iconst (pc' := 8) (n := 0) jd_Renames_nearest_7 rfl ?_
  refine jw_istore (pc' := 10) (lc' := [(0, _), (1, _), (2, _), (3, _), (4, _), (5, _), (6, _)]) jd_Renames_nearest_8 (Nat.le_of_ble_eq_true rfl) ⟨rfl, rfl, rfl, rfl, rfl, rfl, rfl, trivial⟩ rfl ?_
  have loop : ∀ (m i : Nat) (s : zS) (w : Int × Int), i + m = 12 → neP A B u.2.1 w → zF σ s (r + 4) 1 → it (neStep A B u.2.1 p) m i w = neF A B u.2.1 p → jw_X mi_Renames_nearest o k 0 0 10 [(0, .ref r), (1, .ref t1), (2, .int (iI p)), (3, .ref t2), (4, .int (iI w.1)), (5, .int (iI w.2)), (6, .int (iI i))] [] (mm o s) hs := by
    intro m
    induction m with
    | zero =>
      intro i s w hi hw hF he
      have hlo := hw.lo
      have he : w = neF A B u.2.1 p := he
      have e2 : ∀ q, q < 12 → iv s (r + 2) q = u.2.1 q := fun q hq => (iv_cell (hF _ (by omega)) q).trans (hr2 q hq)
      have e3 : iv s r 3 = u.2.2 := (iv_cell (hF _ (by omega)) _).trans hr3
      refine jw_iload (pc' := 12) jd_Renames_nearest_10 rfl rfl ?_
      refine zx_bipush (pc' := 14) (n := 12) jd_Renames_nearest_12 (by decide +kernel) rfl ?_
      refine zx_icmp_ge (tgt := 87) (pc' := 17) (by first | exact rg_iv _ _ _ | omega) (by first | exact rg_iv _ _ _ | omega) jd_Renames_nearest_14 (by decide) rfl (fun q => ?_) (fun q => ?_)
      rotate_left
      · exfalso; omega
      refine jw_iload (pc' := 89) jd_Renames_nearest_87 rfl rfl ?_
      refine zx_if_lt (tgt := 117) (pc' := 92) (by first | exact rg_iv _ _ _ | omega) jd_Renames_nearest_89 (by decide) rfl (fun q2 => ?_) (fun q2 => ?_)
      · refine jw_iload (pc' := 119) jd_Renames_nearest_117 rfl rfl ?_
        refine zx_iret hE jd_Renames_nearest_119 rfl ?_
        refine ⟨by rw [← he], fun q hq => ?_, ?_, hF _ (by omega), hF.mono (by omega) (by omega)⟩
        · rw [← he, if_neg (by omega)]; exact e2 q hq
        · rw [← he, if_pos (by omega)]; exact e3
      · refine jw_iload (pc' := 94) jd_Renames_nearest_92 rfl rfl ?_
        refine zx_bipush (pc' := 96) (n := 12) jd_Renames_nearest_94 (by decide +kernel) rfl ?_
        refine zx_icmp_ge (tgt := 117) (pc' := 99) (by first | exact rg_iv _ _ _ | omega) (by first | exact rg_iv _ _ _ | omega) jd_Renames_nearest_96 (by decide) rfl (fun q3 => ?_) (fun q3 => ?_)
        · exfalso; omega
        refine jw_aload_n (pc' := 100) jd_Renames_nearest_99 rfl rfl rfl ?_
        refine jw_get (pc' := 103) (kf := 1) jc_Renames (by decide) jq_167 jd_Renames_nearest_100 (mc_Renames _ (by assumption)) rfl rfl ?_
        refine jw_iload (pc' := 105) jd_Renames_nearest_103 rfl rfl ?_
        refine jw_iload_n (pc' := 106) jd_Renames_nearest_105 rfl rfl rfl ?_
        refine zx_iast (pc' := 107) (j := w.1.toNat) jd_Renames_nearest_106 (ml_Renames_sources _ (by assumption)) (by omega) (by omega) (Nat.le_of_ble_eq_true rfl) rfl ?_
        refine jw_aload_n (pc' := 108) jd_Renames_nearest_107 rfl rfl rfl ?_
        refine jw_dup (pc' := 109) jd_Renames_nearest_108 rfl rfl ?_
        refine zx_getI (pc' := 112) (kf := 3) jc_Renames (by decide) jq_169 jd_Renames_nearest_109 (mc_Renames _ (by assumption)) rfl rfl ?_
        refine zx_iconst (pc' := 113) (n := 1) jd_Renames_nearest_112 rfl ?_
        refine zx_iadd (pc' := 114) jd_Renames_nearest_113 rfl ?_
        refine zx_putI (pc' := 117) (kf := 3) jc_Renames (by decide) jq_169 jd_Renames_nearest_114 rfl (by decide +kernel) (mc_Renames _ (by assumption)) rfl rfl ?_
        refine jw_iload (pc' := 119) jd_Renames_nearest_117 rfl rfl ?_
        refine zx_iret hE jd_Renames_nearest_119 rfl ?_
        refine ⟨by rw [← he], fun q hq => ?_, ?_, ?_, ?_⟩
        · rw [iv_si (by rw [iv_si (by omega), if_neg (by omega)]; omega), if_neg (by omega), iv_si (by omega), ← he]
          by_cases q9 : (q : Int) = w.1
          · rw [if_pos ⟨rfl, by omega⟩, if_pos q9]
          · rw [if_neg (by omega), if_neg q9]; exact e2 q hq
        · rw [iv_si (by rw [iv_si (by omega), if_neg (by omega)]; omega), if_pos ⟨rfl, rfl⟩, iv_si (by omega), if_neg (by omega), ← he, if_neg (by omega), e3]
        · rw [si_ne (by omega), si_ne (by omega)]; exact hF _ (by omega)
        · exact ((hF.mono (by omega) (by omega) : zF σ s r 7).si (by omega)).si (by omega)
    | succ m ih =>
      intro i s w hi hw hF he
      have hlo := hw.lo
      have hw9 := hw
      obtain ⟨hw1, hw2, -⟩ := hw9
      have okAi := (okA i (by omega)).p
      have okBi := (okB i (by omega)).p
      have sA := hA.fr hF (by omega)
      have sB := hB.fr hF (by omega)
      have e2 : iv s (r + 2) i = u.2.1 i := (iv_cell (hF _ (by omega)) i).trans (hr2 i (by omega))
      have hst := neStep_P (S := u.2.1) okA okB hp i w (by omega) hw
      have he : it (neStep A B u.2.1 p) m (i + 1) (neStep A B u.2.1 p i w) = neF A B u.2.1 p := he
      have gn := nearV_rng (okA p hp) (okB i (by omega))
      refine jw_iload (pc' := 12) jd_Renames_nearest_10 rfl rfl ?_
      refine zx_bipush (pc' := 14) (n := 12) jd_Renames_nearest_12 (by decide +kernel) rfl ?_
      refine zx_icmp_ge (tgt := 87) (pc' := 17) (by first | exact rg_iv _ _ _ | omega) (by first | exact rg_iv _ _ _ | omega) jd_Renames_nearest_14 (by decide) rfl (fun q => ?_) (fun q => ?_)
      · exfalso; omega
      refine jw_aload_n (pc' := 18) jd_Renames_nearest_17 rfl rfl rfl ?_
      refine jw_iload (pc' := 20) jd_Renames_nearest_18 rfl rfl ?_
      refine zx_callV0 (pc' := 23) hR (t_has sB i (by omega)) jm_Tree_has jq_549 jc_Tree jd_Renames_nearest_20 (mc_Tree _ (by assumption)) rfl rfl (Nat.le_of_ble_eq_true rfl) (by omega) (by decide) rfl rfl ?_
      refine zx_if_eq (tgt := 81) (pc' := 26) (by first | exact rg_iv _ _ _ | omega) jd_Renames_nearest_23 (by decide) rfl (fun q2 => ?_) (fun q2 => ?_)
      · refine zx_iinc (pc' := 84) (lc' := [(0, _), (1, _), (2, _), (3, _), (4, _), (5, _), (6, _)]) jd_Renames_nearest_81 rfl (Nat.le_of_ble_eq_true rfl) ⟨rfl, rfl, rfl, rfl, rfl, rfl, rfl, trivial⟩ rfl ?_
        refine jw_goto (tgt := 10) jd_Renames_nearest_84 (by decide) ?_
        have e : neStep A B u.2.1 p i w = w := by unfold neStep; rw [if_pos q2]
        rw [e] at he
        exact ih (i + 1) s w (by omega) hw hF he
      refine jw_aload_n (pc' := 27) jd_Renames_nearest_26 rfl rfl rfl ?_
      refine jw_iload (pc' := 29) jd_Renames_nearest_27 rfl rfl ?_
      refine zx_callV0 (pc' := 32) hR (t_has sA i (by omega)) jm_Tree_has jq_549 jc_Tree jd_Renames_nearest_29 (mc_Tree _ (by assumption)) rfl rfl (Nat.le_of_ble_eq_true rfl) (by omega) (by decide) rfl rfl ?_
      refine zx_if_ne (tgt := 81) (pc' := 35) (by first | exact rg_iv _ _ _ | omega) jd_Renames_nearest_32 (by decide) rfl (fun q3 => ?_) (fun q3 => ?_)
      · refine zx_iinc (pc' := 84) (lc' := [(0, _), (1, _), (2, _), (3, _), (4, _), (5, _), (6, _)]) jd_Renames_nearest_81 rfl (Nat.le_of_ble_eq_true rfl) ⟨rfl, rfl, rfl, rfl, rfl, rfl, rfl, trivial⟩ rfl ?_
        refine jw_goto (tgt := 10) jd_Renames_nearest_84 (by decide) ?_
        have e : neStep A B u.2.1 p i w = w := by unfold neStep; rw [if_neg q2, if_pos q3]
        rw [e] at he
        exact ih (i + 1) s w (by omega) hw hF he
      refine jw_aload_n (pc' := 36) jd_Renames_nearest_35 rfl rfl rfl ?_
      refine jw_get (pc' := 39) (kf := 1) jc_Renames (by decide) jq_167 jd_Renames_nearest_36 (mc_Renames _ (by assumption)) rfl rfl ?_
      refine jw_iload (pc' := 41) jd_Renames_nearest_39 rfl rfl ?_
      refine zx_iald (pc' := 42) jd_Renames_nearest_41 (ml_Renames_sources _ (by assumption)) rfl (by omega) (Nat.le_of_ble_eq_true rfl) rfl ?_
      refine zx_iconst (pc' := 43) (n := -1) jd_Renames_nearest_42 rfl ?_
      refine zx_icmp_ne (tgt := 81) (pc' := 46) (by first | exact rg_iv _ _ _ | omega) (by first | exact rg_iv _ _ _ | omega) jd_Renames_nearest_43 (by decide) rfl (fun q4 => ?_) (fun q4 => ?_)
      · refine zx_iinc (pc' := 84) (lc' := [(0, _), (1, _), (2, _), (3, _), (4, _), (5, _), (6, _)]) jd_Renames_nearest_81 rfl (Nat.le_of_ble_eq_true rfl) ⟨rfl, rfl, rfl, rfl, rfl, rfl, rfl, trivial⟩ rfl ?_
        refine jw_goto (tgt := 10) jd_Renames_nearest_84 (by decide) ?_
        have e : neStep A B u.2.1 p i w = w := by unfold neStep; rw [if_neg q2, if_neg (by omega), if_pos (by omega)]
        rw [e] at he
        exact ih (i + 1) s w (by omega) hw hF he
      refine jw_aload_n (pc' := 47) jd_Renames_nearest_46 rfl rfl rfl ?_
      refine jw_get (pc' := 50) (kf := 2) jc_Renames (by decide) jq_168 jd_Renames_nearest_47 (mc_Renames _ (by assumption)) rfl rfl ?_
      refine jw_aload_n (pc' := 51) jd_Renames_nearest_50 rfl rfl rfl ?_
      refine jw_iload_n (pc' := 52) jd_Renames_nearest_51 rfl rfl rfl ?_
      refine zx_callV0 (pc' := 55) hR (t_fileAt hAA p hp) jm_Tree_fileAt jq_554 jc_Tree jd_Renames_nearest_52 (mc_Tree _ (by assumption)) rfl rfl (Nat.le_of_ble_eq_true rfl) (by omega) (by decide) rfl rfl ?_
      refine jw_aload_n (pc' := 56) jd_Renames_nearest_55 rfl rfl rfl ?_
      refine jw_iload (pc' := 58) jd_Renames_nearest_56 rfl rfl ?_
      refine zx_callV0 (pc' := 61) hR (t_fileAt hBB i (by omega)) jm_Tree_fileAt jq_554 jc_Tree jd_Renames_nearest_58 (mc_Tree _ (by assumption)) rfl rfl (Nat.le_of_ble_eq_true rfl) (by omega) (by decide) rfl rfl ?_
      refine zx_callV (pc' := 64) hR (m_near hmm (sA.2 p hp) (sB.2 i (by omega)) (by unfold fA; omega) (by unfold fA; omega)) jm_Match_nearnessOf jq_555 jc_Match jd_Renames_nearest_61 (mc_Match _ (by assumption)) rfl rfl (Nat.le_of_ble_eq_true rfl) (by omega) (by decide) rfl (fun v9 s1 q9 => ?_)
      obtain ⟨rfl, f1⟩ := q9
      refine jw_istore (pc' := 66) (lc' := [(0, _), (1, _), (2, _), (3, _), (4, _), (5, _), (6, _), (7, _)]) jd_Renames_nearest_64 (Nat.le_of_ble_eq_true rfl) ⟨rfl, rfl, rfl, rfl, rfl, rfl, rfl, rfl, trivial⟩ rfl ?_
      refine jw_iload (pc' := 68) jd_Renames_nearest_66 rfl rfl ?_
      refine jw_iload (pc' := 70) jd_Renames_nearest_68 rfl rfl ?_
      refine zx_icmp_le (tgt := 81) (pc' := 73) (by first | exact rg_iv _ _ _ | omega) (by first | exact rg_iv _ _ _ | omega) jd_Renames_nearest_70 (by decide) rfl (fun q5 => ?_) (fun q5 => ?_)
      · refine zx_iinc (pc' := 84) (lc' := [(0, _), (1, _), (2, _), (3, _), (4, _), (5, _), (6, _)]) jd_Renames_nearest_81 rfl (Nat.le_of_ble_eq_true rfl) ⟨rfl, rfl, rfl, rfl, rfl, rfl, rfl, trivial⟩ rfl ?_
        refine jw_goto (tgt := 10) jd_Renames_nearest_84 (by decide) ?_
        have e : neStep A B u.2.1 p i w = w := by unfold neStep; rw [if_neg q2, if_neg (by omega), if_neg (by omega), if_neg (by omega)]
        rw [e] at he
        exact ih (i + 1) s1 w (by omega) hw (hF.trans f1 (by omega) (by omega)) he
      · refine jw_iload (pc' := 75) jd_Renames_nearest_73 rfl rfl ?_
        refine jw_istore (pc' := 77) (lc' := [(0, _), (1, _), (2, _), (3, _), (4, _), (6, _), (7, _)]) jd_Renames_nearest_75 (Nat.le_of_ble_eq_true rfl) ⟨rfl, rfl, rfl, rfl, rfl, rfl, rfl, trivial⟩ rfl ?_
        refine jw_iload (pc' := 79) jd_Renames_nearest_77 rfl rfl ?_
        refine jw_istore (pc' := 81) (lc' := [(0, _), (1, _), (2, _), (3, _), (4, _), (5, _), (6, _)]) jd_Renames_nearest_79 (Nat.le_of_ble_eq_true rfl) ⟨rfl, rfl, rfl, rfl, rfl, rfl, rfl, trivial⟩ rfl ?_
        refine zx_iinc (pc' := 84) (lc' := [(0, _), (1, _), (2, _), (3, _), (4, _), (5, _), (6, _)]) jd_Renames_nearest_81 rfl (Nat.le_of_ble_eq_true rfl) ⟨rfl, rfl, rfl, rfl, rfl, rfl, rfl, trivial⟩ rfl ?_
        refine jw_goto (tgt := 10) jd_Renames_nearest_84 (by decide) ?_
        have e : neStep A B u.2.1 p i w = ((i : Int), nearV (A p) (B i)) := by unfold neStep; rw [if_neg q2, if_neg (by omega), if_neg (by omega), if_pos (by omega)]
        rw [e] at he hst
        exact ih (i + 1) s1 _ (by omega) hst (hF.trans f1 (by omega) (by omega)) he
  exact loop 12 0 σ (-1, 59) (by omega) ⟨by simp, by simp, Or.inl rfl⟩ zF.rf rfl
theorem r_trace (hr : isR o r) (hA : TC o σ t1 A) (hB : TC o σ t2 B) (hd1 : r + 7 ≤ t1 ∨ t1 + 28 ≤ r) (hd2 : r + 7 ≤ t2 ∨ t2 + 28 ≤ r) : zSpec mi_Renames_trace 4 o [.ref r, .ref t1, .ref t2] σ (fun v s => v = none ∧ RC o s r (trF A B) ∧ zF σ s r 7) := by
  have hAA := hA.1
  have hBB := hB.1
  have okA : ∀ p, p < 12 → okV (A p) := fun p hp => (hA.2 p hp).2.1
  have okB : ∀ p, p < 12 → okV (B p) := fun p hp => (hB.2 p hp).2.1
  refine z_spec (by decide +kernel) (Nat.le_of_ble_eq_true rfl) rfl (fun k hs hR hE => ?_)
  refine jw_aload_n (pc' := 1) jd_Renames_trace_0 rfl rfl rfl ?_
  refine jw_get (pc' := 4) (kf := 0) jc_Renames (by decide) jq_166 jd_Renames_trace_1 (mc_Renames _ (by assumption)) rfl rfl ?_
  refine zx_iconst (pc' := 5) (n := -1) jd_Renames_trace_4 rfl ?_
  refine zx_callS (pc' := 8) hR (z_fill (n := 12) (fun s => ml_Renames_fates s hr) (by omega) (by omega)) jm_Arrays_fill jq_548 jd_Renames_trace_5 rfl rfl (Nat.le_of_ble_eq_true rfl) (by omega) (by decide) rfl (fun v9 s1 q9 => ?_)
  obtain ⟨rfl, h1, f1⟩ := q9
  refine jw_aload_n (pc' := 9) jd_Renames_trace_8 rfl rfl rfl ?_
  refine jw_get (pc' := 12) (kf := 1) jc_Renames (by decide) jq_167 jd_Renames_trace_9 (mc_Renames _ (by assumption)) rfl rfl ?_
  refine zx_iconst (pc' := 13) (n := -1) jd_Renames_trace_12 rfl ?_
  refine zx_callS (pc' := 16) hR (z_fill (n := 12) (fun s => ml_Renames_sources s hr) (by omega) (by omega)) jm_Arrays_fill jq_548 jd_Renames_trace_13 rfl rfl (Nat.le_of_ble_eq_true rfl) (by omega) (by decide) rfl (fun v9 s2 q9 => ?_)
  obtain ⟨rfl, h2, f2⟩ := q9
  refine jw_aload_n (pc' := 17) jd_Renames_trace_16 rfl rfl rfl ?_
  refine zx_iconst (pc' := 18) (n := 0) jd_Renames_trace_17 rfl ?_
  refine zx_putI (pc' := 21) (kf := 3) jc_Renames (by decide) jq_169 jd_Renames_trace_18 rfl (by decide +kernel) (mc_Renames _ (by assumption)) rfl rfl ?_
  refine zx_iconst (pc' := 22) (n := 0) jd_Renames_trace_21 rfl ?_
  refine jw_istore_n (pc' := 23) (lc' := [(0, _), (1, _), (2, _), (3, _)]) jd_Renames_trace_22 rfl (Nat.le_of_ble_eq_true rfl) ⟨rfl, rfl, rfl, rfl, trivial⟩ rfl ?_
  have loop : ∀ (m i : Nat) (s : zS) (u : zN), i + m = 12 → trP A B i u → RC o s r u → zF σ s r 7 → it (trStep A B) m i u = trF A B → jw_X mi_Renames_trace o k 0 0 23 [(0, .ref r), (1, .ref t1), (2, .ref t2), (3, .int (iI i))] [] (mm o s) hs := by
    intro m
    induction m with
    | zero =>
      intro i s u hi hP hR2 hF he
      refine jw_iload_n (pc' := 24) jd_Renames_trace_23 rfl rfl rfl ?_
      refine zx_bipush (pc' := 26) (n := 12) jd_Renames_trace_24 (by decide +kernel) rfl ?_
      refine zx_icmp_ge (tgt := 68) (pc' := 29) (by first | exact rg_iv _ _ _ | omega) (by first | exact rg_iv _ _ _ | omega) jd_Renames_trace_26 (by decide) rfl (fun q => ?_) (fun q => ?_)
      rotate_left
      · exfalso; omega
      refine zx_vret hE jd_Renames_trace_68 rfl ?_
      have he : u = trF A B := he
      exact ⟨rfl, he ▸ hR2, hF⟩
    | succ m ih =>
      intro i s u hi hP hR2 hF he
      have okAi := (okA i (by omega)).p
      have okBi := (okB i (by omega)).p
      have sA := hA.fr hF (by omega)
      have sB := hB.fr hF (by omega)
      have he : it (trStep A B) m (i + 1) (trStep A B i u) = trF A B := he
      have hst := trStep_P okA okB i u (by omega) hP
      have hlo := (neF_P (S := u.2.1) okA okB (show i < 12 by omega)).lo
      have hn := hP.2.2.1
      have hn2 := hP.2.2.2.1
      refine jw_iload_n (pc' := 24) jd_Renames_trace_23 rfl rfl rfl ?_
      refine zx_bipush (pc' := 26) (n := 12) jd_Renames_trace_24 (by decide +kernel) rfl ?_
      refine zx_icmp_ge (tgt := 68) (pc' := 29) (by first | exact rg_iv _ _ _ | omega) (by first | exact rg_iv _ _ _ | omega) jd_Renames_trace_26 (by decide) rfl (fun q => ?_) (fun q => ?_)
      · exfalso; omega
      refine jw_aload_n (pc' := 30) jd_Renames_trace_29 rfl rfl rfl ?_
      refine jw_iload_n (pc' := 31) jd_Renames_trace_30 rfl rfl rfl ?_
      refine zx_callV0 (pc' := 34) hR (t_has sA i (by omega)) jm_Tree_has jq_549 jc_Tree jd_Renames_trace_31 (mc_Tree _ (by assumption)) rfl rfl (Nat.le_of_ble_eq_true rfl) (by omega) (by decide) rfl rfl ?_
      refine zx_if_eq (tgt := 62) (pc' := 37) (by first | exact rg_iv _ _ _ | omega) jd_Renames_trace_34 (by decide) rfl (fun q2 => ?_) (fun q2 => ?_)
      · refine zx_iinc (pc' := 65) (lc' := [(0, _), (1, _), (2, _), (3, _)]) jd_Renames_trace_62 rfl (Nat.le_of_ble_eq_true rfl) ⟨rfl, rfl, rfl, rfl, trivial⟩ rfl ?_
        refine jw_goto (tgt := 23) jd_Renames_trace_65 (by decide) ?_
        have e : trStep A B i u = u := by unfold trStep; rw [if_pos q2]
        rw [e] at he hst
        exact ih (i + 1) s u (by omega) hst hR2 hF he
      refine jw_aload_n (pc' := 38) jd_Renames_trace_37 rfl rfl rfl ?_
      refine jw_get (pc' := 41) (kf := 0) jc_Renames (by decide) jq_166 jd_Renames_trace_38 (mc_Renames _ (by assumption)) rfl rfl ?_
      refine jw_iload_n (pc' := 42) jd_Renames_trace_41 rfl rfl rfl ?_
      refine jw_aload_n (pc' := 43) jd_Renames_trace_42 rfl rfl rfl ?_
      refine jw_iload_n (pc' := 44) jd_Renames_trace_43 rfl rfl rfl ?_
      refine zx_callV0 (pc' := 47) hR (t_has sB i (by omega)) jm_Tree_has jq_549 jc_Tree jd_Renames_trace_44 (mc_Tree _ (by assumption)) rfl rfl (Nat.le_of_ble_eq_true rfl) (by omega) (by decide) rfl rfl ?_
      refine zx_if_eq (tgt := 54) (pc' := 50) (by first | exact rg_iv _ _ _ | omega) jd_Renames_trace_47 (by decide) rfl (fun q3 => ?_) (fun q3 => ?_)
      · refine jw_aload_n (pc' := 55) jd_Renames_trace_54 rfl rfl rfl ?_
        refine jw_aload_n (pc' := 56) jd_Renames_trace_55 rfl rfl rfl ?_
        refine jw_iload_n (pc' := 57) jd_Renames_trace_56 rfl rfl rfl ?_
        refine jw_aload_n (pc' := 58) jd_Renames_trace_57 rfl rfl rfl ?_
        refine zx_callV (pc' := 61) hR (r_nearest hR2 sA sB hd1 hd2 i (by omega) (by omega)) jm_Renames_nearest jq_550 jc_Renames jd_Renames_trace_58 (mc_Renames _ (by assumption)) rfl rfl (Nat.le_of_ble_eq_true rfl) (by omega) (by decide) rfl (fun v9 s3 q9 => ?_)
        obtain ⟨rfl, g1, g2, g3, g4⟩ := q9
        refine zx_iast (pc' := 62) jd_Renames_trace_61 (ml_Renames_fates _ (by assumption)) rfl (by omega) (Nat.le_of_ble_eq_true rfl) rfl ?_
        refine zx_iinc (pc' := 65) (lc' := [(0, _), (1, _), (2, _), (3, _)]) jd_Renames_trace_62 rfl (Nat.le_of_ble_eq_true rfl) ⟨rfl, rfl, rfl, rfl, trivial⟩ rfl ?_
        refine jw_goto (tgt := 23) jd_Renames_trace_65 (by decide) ?_
        refine ih (i + 1) _ _ (by omega) hst ⟨hr, fun q hq => ?_, fun q hq => ?_, ?_⟩ ((hF.trans g4 (by omega) (by omega)).si (by omega)) he
        · unfold trStep; rw [if_neg q2, if_neg (by omega)]; dsimp only
          rw [iv_si (by omega)]
          by_cases q9 : q = i
          · rw [if_pos ⟨rfl, q9⟩, if_pos q9]
          · rw [if_neg (fun z => q9 z.2), if_neg q9, iv_cell g3]; exact hR2.2.1 q hq
        · unfold trStep; rw [if_neg q2, if_neg (by omega)]; dsimp only
          rw [iv_si (by omega), if_neg (by omega)]; exact g1 q hq
        · unfold trStep; rw [if_neg q2, if_neg (by omega)]; dsimp only
          rw [iv_si (by omega), if_neg (by omega)]; exact g2
      · refine jw_iload_n (pc' := 51) jd_Renames_trace_50 rfl rfl rfl ?_
        refine jw_goto (tgt := 61) jd_Renames_trace_51 (by decide) ?_
        refine zx_iast (pc' := 62) jd_Renames_trace_61 (ml_Renames_fates _ (by assumption)) rfl (by omega) (Nat.le_of_ble_eq_true rfl) rfl ?_
        refine zx_iinc (pc' := 65) (lc' := [(0, _), (1, _), (2, _), (3, _)]) jd_Renames_trace_62 rfl (Nat.le_of_ble_eq_true rfl) ⟨rfl, rfl, rfl, rfl, trivial⟩ rfl ?_
        refine jw_goto (tgt := 23) jd_Renames_trace_65 (by decide) ?_
        refine ih (i + 1) _ _ (by omega) hst ⟨hr, fun q hq => ?_, fun q hq => ?_, ?_⟩ (hF.si (by omega)) he
        · unfold trStep; rw [if_neg q2, if_pos q3]; dsimp only
          rw [iv_si (by omega)]
          by_cases q9 : q = i
          · rw [if_pos ⟨rfl, q9⟩, if_pos q9]
          · rw [if_neg (fun z => q9 z.2), if_neg q9]; exact hR2.2.1 q hq
        · unfold trStep; rw [if_neg q2, if_pos q3]; dsimp only
          rw [iv_si (by omega), if_neg (by omega)]; exact hR2.2.2.1 q hq
        · unfold trStep; rw [if_neg q2, if_pos q3]; dsimp only
          rw [iv_si (by omega), if_neg (by omega)]; exact hR2.2.2.2
  refine loop 12 0 _ (fun _ => -1, fun _ => -1, 0) (by omega) tr0_P ⟨hr, fun q hq => ?_, fun q hq => ?_, ?_⟩ (((f1.mono (by omega) (by omega) : zF σ s1 r 7).trans f2 (by omega) (by omega)).si (by omega)) rfl
  · rw [iv_si (by omega), if_neg (by omega), iv_cell (f2 _ (by omega))]; exact h1 q hq
  · rw [iv_si (by omega), if_neg (by omega)]; exact h2 q hq
  · rw [iv_si (by omega), if_pos ⟨rfl, rfl⟩]
theorem r_fate {u : zN} (h : RC o σ r u) (p : Nat) (hp : p < 12) : zRo mi_Renames_fateOf 0 o [.ref r, .int (iI p)] σ (some (.int (iI (u.1 p)))) := by
  have hr := h.1
  have e := h.2.1 p hp
  refine z_spec (by decide +kernel) (Nat.le_of_ble_eq_true rfl) rfl (fun k hs hR hE => ?_)
  refine jw_iload_n (pc' := 1) jd_Renames_fateOf_0 rfl rfl rfl ?_
  refine zx_if_lt (tgt := 19) (pc' := 4) (by first | exact rg_iv _ _ _ | omega) jd_Renames_fateOf_1 (by decide) rfl (fun q => ?_) (fun q => ?_)
  · exfalso; omega
  refine jw_iload_n (pc' := 5) jd_Renames_fateOf_4 rfl rfl rfl ?_
  refine zx_bipush (pc' := 7) (n := 12) jd_Renames_fateOf_5 (by decide +kernel) rfl ?_
  refine zx_icmp_ge (tgt := 19) (pc' := 10) (by first | exact rg_iv _ _ _ | omega) (by first | exact rg_iv _ _ _ | omega) jd_Renames_fateOf_7 (by decide) rfl (fun q2 => ?_) (fun q2 => ?_)
  · exfalso; omega
  refine jw_aload_n (pc' := 11) jd_Renames_fateOf_10 rfl rfl rfl ?_
  refine jw_get (pc' := 14) (kf := 0) jc_Renames (by decide) jq_166 jd_Renames_fateOf_11 (mc_Renames _ (by assumption)) rfl rfl ?_
  refine jw_iload_n (pc' := 15) jd_Renames_fateOf_14 rfl rfl rfl ?_
  refine zx_iald (pc' := 16) jd_Renames_fateOf_15 (ml_Renames_fates _ (by assumption)) rfl (by omega) (Nat.le_of_ble_eq_true rfl) rfl ?_
  refine jw_goto (tgt := 20) jd_Renames_fateOf_16 (by decide) ?_
  refine zx_iret hE jd_Renames_fateOf_20 rfl ?_
  exact ⟨by rw [e], rfl⟩
theorem r_source {u : zN} (h : RC o σ r u) (p : Nat) (hp : p < 12) : zRo mi_Renames_sourceOf 0 o [.ref r, .int (iI p)] σ (some (.int (iI (u.2.1 p)))) := by
  have hr := h.1
  have e := h.2.2.1 p hp
  refine z_spec (by decide +kernel) (Nat.le_of_ble_eq_true rfl) rfl (fun k hs hR hE => ?_)
  refine jw_iload_n (pc' := 1) jd_Renames_sourceOf_0 rfl rfl rfl ?_
  refine zx_if_lt (tgt := 19) (pc' := 4) (by first | exact rg_iv _ _ _ | omega) jd_Renames_sourceOf_1 (by decide) rfl (fun q => ?_) (fun q => ?_)
  · exfalso; omega
  refine jw_iload_n (pc' := 5) jd_Renames_sourceOf_4 rfl rfl rfl ?_
  refine zx_bipush (pc' := 7) (n := 12) jd_Renames_sourceOf_5 (by decide +kernel) rfl ?_
  refine zx_icmp_ge (tgt := 19) (pc' := 10) (by first | exact rg_iv _ _ _ | omega) (by first | exact rg_iv _ _ _ | omega) jd_Renames_sourceOf_7 (by decide) rfl (fun q2 => ?_) (fun q2 => ?_)
  · exfalso; omega
  refine jw_aload_n (pc' := 11) jd_Renames_sourceOf_10 rfl rfl rfl ?_
  refine jw_get (pc' := 14) (kf := 1) jc_Renames (by decide) jq_167 jd_Renames_sourceOf_11 (mc_Renames _ (by assumption)) rfl rfl ?_
  refine jw_iload_n (pc' := 15) jd_Renames_sourceOf_14 rfl rfl rfl ?_
  refine zx_iald (pc' := 16) jd_Renames_sourceOf_15 (ml_Renames_sources _ (by assumption)) rfl (by omega) (Nat.le_of_ble_eq_true rfl) rfl ?_
  refine jw_goto (tgt := 20) jd_Renames_sourceOf_16 (by decide) ?_
  refine zx_iret hE jd_Renames_sourceOf_20 rfl ?_
  exact ⟨by rw [e], rfl⟩
theorem r_many {u : zN} (h : RC o σ r u) : zRo mi_Renames_howMany 0 o [.ref r] σ (some (.int (iI u.2.2))) := by
  have hr := h.1
  have e := h.2.2.2
  refine z_spec (by decide +kernel) (Nat.le_of_ble_eq_true rfl) rfl (fun k hs hR hE => ?_)
  refine jw_aload_n (pc' := 1) jd_Renames_howMany_0 rfl rfl rfl ?_
  refine zx_getI (pc' := 4) (kf := 3) jc_Renames (by decide) jq_169 jd_Renames_howMany_1 (mc_Renames _ (by assumption)) rfl rfl ?_
  refine zx_iret hE jd_Renames_howMany_4 rfl ?_
  exact ⟨by rw [e], rfl⟩
end
end
section
theorem jd_Conflicts_howMany_0 : decode mi_Conflicts_howMany.2.1 0 = .ok (.aload_n 0, 1) := by decide +kernel
theorem jd_Conflicts_howMany_1 : decode mi_Conflicts_howMany.2.1 1 = .ok (.getfield 18, 3) := by decide +kernel
theorem jd_Conflicts_howMany_4 : decode mi_Conflicts_howMany.2.1 4 = .ok (.ireturn, 1) := by decide +kernel
theorem jd_Conflicts_holds_0 : decode mi_Conflicts_holds.2.1 0 = .ok (.iload_n 1, 1) := by decide +kernel
theorem jd_Conflicts_holds_1 : decode mi_Conflicts_holds.2.1 1 = .ok (.ifCond .lt 21, 3) := by decide +kernel
theorem jd_Conflicts_holds_4 : decode mi_Conflicts_holds.2.1 4 = .ok (.iload_n 1, 1) := by decide +kernel
theorem jd_Conflicts_holds_5 : decode mi_Conflicts_holds.2.1 5 = .ok (.aload_n 0, 1) := by decide +kernel
theorem jd_Conflicts_holds_6 : decode mi_Conflicts_holds.2.1 6 = .ok (.getfield 18, 3) := by decide +kernel
theorem jd_Conflicts_holds_9 : decode mi_Conflicts_holds.2.1 9 = .ok (.if_icmp .ge 13, 3) := by decide +kernel
theorem jd_Conflicts_holds_12 : decode mi_Conflicts_holds.2.1 12 = .ok (.iload_n 1, 1) := by decide +kernel
theorem jd_Conflicts_holds_13 : decode mi_Conflicts_holds.2.1 13 = .ok (.bipush 24, 2) := by decide +kernel
theorem jd_Conflicts_holds_15 : decode mi_Conflicts_holds.2.1 15 = .ok (.if_icmp .ge 7, 3) := by decide +kernel
theorem jd_Conflicts_holds_18 : decode mi_Conflicts_holds.2.1 18 = .ok (.iconst 1, 1) := by decide +kernel
theorem jd_Conflicts_holds_19 : decode mi_Conflicts_holds.2.1 19 = .ok (.goto 4, 3) := by decide +kernel
theorem jd_Conflicts_holds_22 : decode mi_Conflicts_holds.2.1 22 = .ok (.iconst 0, 1) := by decide +kernel
theorem jd_Conflicts_holds_23 : decode mi_Conflicts_holds.2.1 23 = .ok (.ireturn, 1) := by decide +kernel
theorem jd_Conflicts_codeOf_0 : decode mi_Conflicts_codeOf.2.1 0 = .ok (.aload_n 0, 1) := by decide +kernel
theorem jd_Conflicts_codeOf_1 : decode mi_Conflicts_codeOf.2.1 1 = .ok (.iload_n 1, 1) := by decide +kernel
theorem jd_Conflicts_codeOf_2 : decode mi_Conflicts_codeOf.2.1 2 = .ok (.invokevirtual 22, 3) := by decide +kernel
theorem jd_Conflicts_codeOf_5 : decode mi_Conflicts_codeOf.2.1 5 = .ok (.ifCond .eq 12, 3) := by decide +kernel
theorem jd_Conflicts_codeOf_8 : decode mi_Conflicts_codeOf.2.1 8 = .ok (.aload_n 0, 1) := by decide +kernel
theorem jd_Conflicts_codeOf_9 : decode mi_Conflicts_codeOf.2.1 9 = .ok (.getfield 9, 3) := by decide +kernel
theorem jd_Conflicts_codeOf_12 : decode mi_Conflicts_codeOf.2.1 12 = .ok (.iload_n 1, 1) := by decide +kernel
theorem jd_Conflicts_codeOf_13 : decode mi_Conflicts_codeOf.2.1 13 = .ok (.iaload, 1) := by decide +kernel
theorem jd_Conflicts_codeOf_14 : decode mi_Conflicts_codeOf.2.1 14 = .ok (.goto 4, 3) := by decide +kernel
theorem jd_Conflicts_codeOf_17 : decode mi_Conflicts_codeOf.2.1 17 = .ok (.iconst (-1), 1) := by decide +kernel
theorem jd_Conflicts_codeOf_18 : decode mi_Conflicts_codeOf.2.1 18 = .ok (.ireturn, 1) := by decide +kernel
theorem jd_Conflicts_pathOf_0 : decode mi_Conflicts_pathOf.2.1 0 = .ok (.aload_n 0, 1) := by decide +kernel
theorem jd_Conflicts_pathOf_1 : decode mi_Conflicts_pathOf.2.1 1 = .ok (.iload_n 1, 1) := by decide +kernel
theorem jd_Conflicts_pathOf_2 : decode mi_Conflicts_pathOf.2.1 2 = .ok (.invokevirtual 22, 3) := by decide +kernel
theorem jd_Conflicts_pathOf_5 : decode mi_Conflicts_pathOf.2.1 5 = .ok (.ifCond .eq 12, 3) := by decide +kernel
theorem jd_Conflicts_pathOf_8 : decode mi_Conflicts_pathOf.2.1 8 = .ok (.aload_n 0, 1) := by decide +kernel
theorem jd_Conflicts_pathOf_9 : decode mi_Conflicts_pathOf.2.1 9 = .ok (.getfield 15, 3) := by decide +kernel
theorem jd_Conflicts_pathOf_12 : decode mi_Conflicts_pathOf.2.1 12 = .ok (.iload_n 1, 1) := by decide +kernel
theorem jd_Conflicts_pathOf_13 : decode mi_Conflicts_pathOf.2.1 13 = .ok (.iaload, 1) := by decide +kernel
theorem jd_Conflicts_pathOf_14 : decode mi_Conflicts_pathOf.2.1 14 = .ok (.goto 4, 3) := by decide +kernel
theorem jd_Conflicts_pathOf_17 : decode mi_Conflicts_pathOf.2.1 17 = .ok (.iconst (-1), 1) := by decide +kernel
theorem jd_Conflicts_pathOf_18 : decode mi_Conflicts_pathOf.2.1 18 = .ok (.ireturn, 1) := by decide +kernel
theorem jd_Conflicts_tell_0 : decode mi_Conflicts_tell.2.1 0 = .ok (.aload_n 0, 1) := by decide +kernel
theorem jd_Conflicts_tell_1 : decode mi_Conflicts_tell.2.1 1 = .ok (.getfield 18, 3) := by decide +kernel
theorem jd_Conflicts_tell_4 : decode mi_Conflicts_tell.2.1 4 = .ok (.bipush 24, 2) := by decide +kernel
theorem jd_Conflicts_tell_6 : decode mi_Conflicts_tell.2.1 6 = .ok (.if_icmp .ge 33, 3) := by decide +kernel
theorem jd_Conflicts_tell_9 : decode mi_Conflicts_tell.2.1 9 = .ok (.aload_n 0, 1) := by decide +kernel
theorem jd_Conflicts_tell_10 : decode mi_Conflicts_tell.2.1 10 = .ok (.getfield 9, 3) := by decide +kernel
theorem jd_Conflicts_tell_13 : decode mi_Conflicts_tell.2.1 13 = .ok (.aload_n 0, 1) := by decide +kernel
theorem jd_Conflicts_tell_14 : decode mi_Conflicts_tell.2.1 14 = .ok (.getfield 18, 3) := by decide +kernel
theorem jd_Conflicts_tell_17 : decode mi_Conflicts_tell.2.1 17 = .ok (.iload_n 1, 1) := by decide +kernel
theorem jd_Conflicts_tell_18 : decode mi_Conflicts_tell.2.1 18 = .ok (.iastore, 1) := by decide +kernel
theorem jd_Conflicts_tell_19 : decode mi_Conflicts_tell.2.1 19 = .ok (.aload_n 0, 1) := by decide +kernel
theorem jd_Conflicts_tell_20 : decode mi_Conflicts_tell.2.1 20 = .ok (.getfield 15, 3) := by decide +kernel
theorem jd_Conflicts_tell_23 : decode mi_Conflicts_tell.2.1 23 = .ok (.aload_n 0, 1) := by decide +kernel
theorem jd_Conflicts_tell_24 : decode mi_Conflicts_tell.2.1 24 = .ok (.getfield 18, 3) := by decide +kernel
theorem jd_Conflicts_tell_27 : decode mi_Conflicts_tell.2.1 27 = .ok (.iload_n 2, 1) := by decide +kernel
theorem jd_Conflicts_tell_28 : decode mi_Conflicts_tell.2.1 28 = .ok (.iastore, 1) := by decide +kernel
theorem jd_Conflicts_tell_29 : decode mi_Conflicts_tell.2.1 29 = .ok (.aload_n 0, 1) := by decide +kernel
theorem jd_Conflicts_tell_30 : decode mi_Conflicts_tell.2.1 30 = .ok (.dup, 1) := by decide +kernel
theorem jd_Conflicts_tell_31 : decode mi_Conflicts_tell.2.1 31 = .ok (.getfield 18, 3) := by decide +kernel
theorem jd_Conflicts_tell_34 : decode mi_Conflicts_tell.2.1 34 = .ok (.iconst 1, 1) := by decide +kernel
theorem jd_Conflicts_tell_35 : decode mi_Conflicts_tell.2.1 35 = .ok (.iadd, 1) := by decide +kernel
theorem jd_Conflicts_tell_36 : decode mi_Conflicts_tell.2.1 36 = .ok (.putfield 18, 3) := by decide +kernel
theorem jd_Conflicts_tell_39 : decode mi_Conflicts_tell.2.1 39 = .ok (.return_, 1) := by decide +kernel
theorem jd_Conflicts_clear_0 : decode mi_Conflicts_clear.2.1 0 = .ok (.aload_n 0, 1) := by decide +kernel
theorem jd_Conflicts_clear_1 : decode mi_Conflicts_clear.2.1 1 = .ok (.iconst 0, 1) := by decide +kernel
theorem jd_Conflicts_clear_2 : decode mi_Conflicts_clear.2.1 2 = .ok (.putfield 18, 3) := by decide +kernel
theorem jd_Conflicts_clear_5 : decode mi_Conflicts_clear.2.1 5 = .ok (.return_, 1) := by decide +kernel
theorem jd_Conflicts_drop_0 : decode mi_Conflicts_drop.2.1 0 = .ok (.aload_n 0, 1) := by decide +kernel
theorem jd_Conflicts_drop_1 : decode mi_Conflicts_drop.2.1 1 = .ok (.iload_n 1, 1) := by decide +kernel
theorem jd_Conflicts_drop_2 : decode mi_Conflicts_drop.2.1 2 = .ok (.invokevirtual 22, 3) := by decide +kernel
theorem jd_Conflicts_drop_5 : decode mi_Conflicts_drop.2.1 5 = .ok (.ifCond .ne 4, 3) := by decide +kernel
theorem jd_Conflicts_drop_8 : decode mi_Conflicts_drop.2.1 8 = .ok (.return_, 1) := by decide +kernel
theorem jd_Conflicts_drop_9 : decode mi_Conflicts_drop.2.1 9 = .ok (.iload_n 1, 1) := by decide +kernel
theorem jd_Conflicts_drop_10 : decode mi_Conflicts_drop.2.1 10 = .ok (.istore_n 2, 1) := by decide +kernel
theorem jd_Conflicts_drop_11 : decode mi_Conflicts_drop.2.1 11 = .ok (.iload_n 2, 1) := by decide +kernel
theorem jd_Conflicts_drop_12 : decode mi_Conflicts_drop.2.1 12 = .ok (.aload_n 0, 1) := by decide +kernel
theorem jd_Conflicts_drop_13 : decode mi_Conflicts_drop.2.1 13 = .ok (.getfield 18, 3) := by decide +kernel
theorem jd_Conflicts_drop_16 : decode mi_Conflicts_drop.2.1 16 = .ok (.iconst 1, 1) := by decide +kernel
theorem jd_Conflicts_drop_17 : decode mi_Conflicts_drop.2.1 17 = .ok (.isub, 1) := by decide +kernel
theorem jd_Conflicts_drop_18 : decode mi_Conflicts_drop.2.1 18 = .ok (.if_icmp .ge 37, 3) := by decide +kernel
theorem jd_Conflicts_drop_21 : decode mi_Conflicts_drop.2.1 21 = .ok (.aload_n 0, 1) := by decide +kernel
theorem jd_Conflicts_drop_22 : decode mi_Conflicts_drop.2.1 22 = .ok (.getfield 9, 3) := by decide +kernel
theorem jd_Conflicts_drop_25 : decode mi_Conflicts_drop.2.1 25 = .ok (.iload_n 2, 1) := by decide +kernel
theorem jd_Conflicts_drop_26 : decode mi_Conflicts_drop.2.1 26 = .ok (.aload_n 0, 1) := by decide +kernel
theorem jd_Conflicts_drop_27 : decode mi_Conflicts_drop.2.1 27 = .ok (.getfield 9, 3) := by decide +kernel
theorem jd_Conflicts_drop_30 : decode mi_Conflicts_drop.2.1 30 = .ok (.iload_n 2, 1) := by decide +kernel
theorem jd_Conflicts_drop_31 : decode mi_Conflicts_drop.2.1 31 = .ok (.iconst 1, 1) := by decide +kernel
theorem jd_Conflicts_drop_32 : decode mi_Conflicts_drop.2.1 32 = .ok (.iadd, 1) := by decide +kernel
theorem jd_Conflicts_drop_33 : decode mi_Conflicts_drop.2.1 33 = .ok (.iaload, 1) := by decide +kernel
theorem jd_Conflicts_drop_34 : decode mi_Conflicts_drop.2.1 34 = .ok (.iastore, 1) := by decide +kernel
theorem jd_Conflicts_drop_35 : decode mi_Conflicts_drop.2.1 35 = .ok (.aload_n 0, 1) := by decide +kernel
theorem jd_Conflicts_drop_36 : decode mi_Conflicts_drop.2.1 36 = .ok (.getfield 15, 3) := by decide +kernel
theorem jd_Conflicts_drop_39 : decode mi_Conflicts_drop.2.1 39 = .ok (.iload_n 2, 1) := by decide +kernel
theorem jd_Conflicts_drop_40 : decode mi_Conflicts_drop.2.1 40 = .ok (.aload_n 0, 1) := by decide +kernel
theorem jd_Conflicts_drop_41 : decode mi_Conflicts_drop.2.1 41 = .ok (.getfield 15, 3) := by decide +kernel
theorem jd_Conflicts_drop_44 : decode mi_Conflicts_drop.2.1 44 = .ok (.iload_n 2, 1) := by decide +kernel
theorem jd_Conflicts_drop_45 : decode mi_Conflicts_drop.2.1 45 = .ok (.iconst 1, 1) := by decide +kernel
theorem jd_Conflicts_drop_46 : decode mi_Conflicts_drop.2.1 46 = .ok (.iadd, 1) := by decide +kernel
theorem jd_Conflicts_drop_47 : decode mi_Conflicts_drop.2.1 47 = .ok (.iaload, 1) := by decide +kernel
theorem jd_Conflicts_drop_48 : decode mi_Conflicts_drop.2.1 48 = .ok (.iastore, 1) := by decide +kernel
theorem jd_Conflicts_drop_49 : decode mi_Conflicts_drop.2.1 49 = .ok (.iinc 2 1, 3) := by decide +kernel
theorem jd_Conflicts_drop_52 : decode mi_Conflicts_drop.2.1 52 = .ok (.goto (-41), 3) := by decide +kernel
theorem jd_Conflicts_drop_55 : decode mi_Conflicts_drop.2.1 55 = .ok (.aload_n 0, 1) := by decide +kernel
theorem jd_Conflicts_drop_56 : decode mi_Conflicts_drop.2.1 56 = .ok (.dup, 1) := by decide +kernel
theorem jd_Conflicts_drop_57 : decode mi_Conflicts_drop.2.1 57 = .ok (.getfield 18, 3) := by decide +kernel
theorem jd_Conflicts_drop_60 : decode mi_Conflicts_drop.2.1 60 = .ok (.iconst 1, 1) := by decide +kernel
theorem jd_Conflicts_drop_61 : decode mi_Conflicts_drop.2.1 61 = .ok (.isub, 1) := by decide +kernel
theorem jd_Conflicts_drop_62 : decode mi_Conflicts_drop.2.1 62 = .ok (.putfield 18, 3) := by decide +kernel
theorem jd_Conflicts_drop_65 : decode mi_Conflicts_drop.2.1 65 = .ok (.return_, 1) := by decide +kernel
theorem jd_Conflicts_copyFrom_0 : decode mi_Conflicts_copyFrom.2.1 0 = .ok (.aload_n 0, 1) := by decide +kernel
theorem jd_Conflicts_copyFrom_1 : decode mi_Conflicts_copyFrom.2.1 1 = .ok (.invokevirtual 26, 3) := by decide +kernel
theorem jd_Conflicts_copyFrom_4 : decode mi_Conflicts_copyFrom.2.1 4 = .ok (.iconst 0, 1) := by decide +kernel
theorem jd_Conflicts_copyFrom_5 : decode mi_Conflicts_copyFrom.2.1 5 = .ok (.istore_n 2, 1) := by decide +kernel
theorem jd_Conflicts_copyFrom_6 : decode mi_Conflicts_copyFrom.2.1 6 = .ok (.iload_n 2, 1) := by decide +kernel
theorem jd_Conflicts_copyFrom_7 : decode mi_Conflicts_copyFrom.2.1 7 = .ok (.aload_n 1, 1) := by decide +kernel
theorem jd_Conflicts_copyFrom_8 : decode mi_Conflicts_copyFrom.2.1 8 = .ok (.invokevirtual 29, 3) := by decide +kernel
theorem jd_Conflicts_copyFrom_11 : decode mi_Conflicts_copyFrom.2.1 11 = .ok (.if_icmp .ge 23, 3) := by decide +kernel
theorem jd_Conflicts_copyFrom_14 : decode mi_Conflicts_copyFrom.2.1 14 = .ok (.aload_n 0, 1) := by decide +kernel
theorem jd_Conflicts_copyFrom_15 : decode mi_Conflicts_copyFrom.2.1 15 = .ok (.aload_n 1, 1) := by decide +kernel
theorem jd_Conflicts_copyFrom_16 : decode mi_Conflicts_copyFrom.2.1 16 = .ok (.iload_n 2, 1) := by decide +kernel
theorem jd_Conflicts_copyFrom_17 : decode mi_Conflicts_copyFrom.2.1 17 = .ok (.invokevirtual 33, 3) := by decide +kernel
theorem jd_Conflicts_copyFrom_20 : decode mi_Conflicts_copyFrom.2.1 20 = .ok (.aload_n 1, 1) := by decide +kernel
theorem jd_Conflicts_copyFrom_21 : decode mi_Conflicts_copyFrom.2.1 21 = .ok (.iload_n 2, 1) := by decide +kernel
theorem jd_Conflicts_copyFrom_22 : decode mi_Conflicts_copyFrom.2.1 22 = .ok (.invokevirtual 37, 3) := by decide +kernel
theorem jd_Conflicts_copyFrom_25 : decode mi_Conflicts_copyFrom.2.1 25 = .ok (.invokevirtual 40, 3) := by decide +kernel
theorem jd_Conflicts_copyFrom_28 : decode mi_Conflicts_copyFrom.2.1 28 = .ok (.iinc 2 1, 3) := by decide +kernel
theorem jd_Conflicts_copyFrom_31 : decode mi_Conflicts_copyFrom.2.1 31 = .ok (.goto (-25), 3) := by decide +kernel
theorem jd_Conflicts_copyFrom_34 : decode mi_Conflicts_copyFrom.2.1 34 = .ok (.return_, 1) := by decide +kernel
theorem jd_Blender_blendParts_0 : decode mi_Blender_blendParts.2.1 0 = .ok (.aload_n 0, 1) := by decide +kernel
theorem jd_Blender_blendParts_1 : decode mi_Blender_blendParts.2.1 1 = .ok (.getfield 28, 3) := by decide +kernel
theorem jd_Blender_blendParts_4 : decode mi_Blender_blendParts.2.1 4 = .ok (.aload_n 0, 1) := by decide +kernel
theorem jd_Blender_blendParts_5 : decode mi_Blender_blendParts.2.1 5 = .ok (.getfield 24, 3) := by decide +kernel
theorem jd_Blender_blendParts_8 : decode mi_Blender_blendParts.2.1 8 = .ok (.invokevirtual 64, 3) := by decide +kernel
theorem jd_Blender_blendParts_11 : decode mi_Blender_blendParts.2.1 11 = .ok (.ifCond .eq 13, 3) := by decide +kernel
theorem jd_Blender_blendParts_14 : decode mi_Blender_blendParts.2.1 14 = .ok (.aload_n 1, 1) := by decide +kernel
theorem jd_Blender_blendParts_15 : decode mi_Blender_blendParts.2.1 15 = .ok (.aload_n 0, 1) := by decide +kernel
theorem jd_Blender_blendParts_16 : decode mi_Blender_blendParts.2.1 16 = .ok (.getfield 31, 3) := by decide +kernel
theorem jd_Blender_blendParts_19 : decode mi_Blender_blendParts.2.1 19 = .ok (.invokevirtual 67, 3) := by decide +kernel
theorem jd_Blender_blendParts_22 : decode mi_Blender_blendParts.2.1 22 = .ok (.iconst 0, 1) := by decide +kernel
theorem jd_Blender_blendParts_23 : decode mi_Blender_blendParts.2.1 23 = .ok (.ireturn, 1) := by decide +kernel
theorem jd_Blender_blendParts_24 : decode mi_Blender_blendParts.2.1 24 = .ok (.aload_n 1, 1) := by decide +kernel
theorem jd_Blender_blendParts_25 : decode mi_Blender_blendParts.2.1 25 = .ok (.aload_n 0, 1) := by decide +kernel
theorem jd_Blender_blendParts_26 : decode mi_Blender_blendParts.2.1 26 = .ok (.getfield 28, 3) := by decide +kernel
theorem jd_Blender_blendParts_29 : decode mi_Blender_blendParts.2.1 29 = .ok (.invokevirtual 67, 3) := by decide +kernel
theorem jd_Blender_blendParts_32 : decode mi_Blender_blendParts.2.1 32 = .ok (.aload_n 0, 1) := by decide +kernel
theorem jd_Blender_blendParts_33 : decode mi_Blender_blendParts.2.1 33 = .ok (.getfield 31, 3) := by decide +kernel
theorem jd_Blender_blendParts_36 : decode mi_Blender_blendParts.2.1 36 = .ok (.aload_n 0, 1) := by decide +kernel
theorem jd_Blender_blendParts_37 : decode mi_Blender_blendParts.2.1 37 = .ok (.getfield 24, 3) := by decide +kernel
theorem jd_Blender_blendParts_40 : decode mi_Blender_blendParts.2.1 40 = .ok (.invokevirtual 64, 3) := by decide +kernel
theorem jd_Blender_blendParts_43 : decode mi_Blender_blendParts.2.1 43 = .ok (.ifCond .ne 17, 3) := by decide +kernel
theorem jd_Blender_blendParts_46 : decode mi_Blender_blendParts.2.1 46 = .ok (.aload_n 0, 1) := by decide +kernel
theorem jd_Blender_blendParts_47 : decode mi_Blender_blendParts.2.1 47 = .ok (.getfield 31, 3) := by decide +kernel
theorem jd_Blender_blendParts_50 : decode mi_Blender_blendParts.2.1 50 = .ok (.aload_n 0, 1) := by decide +kernel
theorem jd_Blender_blendParts_51 : decode mi_Blender_blendParts.2.1 51 = .ok (.getfield 28, 3) := by decide +kernel
theorem jd_Blender_blendParts_54 : decode mi_Blender_blendParts.2.1 54 = .ok (.invokevirtual 64, 3) := by decide +kernel
theorem jd_Blender_blendParts_57 : decode mi_Blender_blendParts.2.1 57 = .ok (.ifCond .eq 5, 3) := by decide +kernel
theorem jd_Blender_blendParts_60 : decode mi_Blender_blendParts.2.1 60 = .ok (.iconst 0, 1) := by decide +kernel
theorem jd_Blender_blendParts_61 : decode mi_Blender_blendParts.2.1 61 = .ok (.ireturn, 1) := by decide +kernel
theorem jd_Blender_blendParts_62 : decode mi_Blender_blendParts.2.1 62 = .ok (.aload_n 1, 1) := by decide +kernel
theorem jd_Blender_blendParts_63 : decode mi_Blender_blendParts.2.1 63 = .ok (.aload_n 0, 1) := by decide +kernel
theorem jd_Blender_blendParts_64 : decode mi_Blender_blendParts.2.1 64 = .ok (.getfield 31, 3) := by decide +kernel
theorem jd_Blender_blendParts_67 : decode mi_Blender_blendParts.2.1 67 = .ok (.invokevirtual 67, 3) := by decide +kernel
theorem jd_Blender_blendParts_70 : decode mi_Blender_blendParts.2.1 70 = .ok (.iconst 1, 1) := by decide +kernel
theorem jd_Blender_blendParts_71 : decode mi_Blender_blendParts.2.1 71 = .ok (.ireturn, 1) := by decide +kernel
theorem jd_Blender_blendInto_0 : decode mi_Blender_blendInto.2.1 0 = .ok (.aload_n 0, 1) := by decide +kernel
theorem jd_Blender_blendInto_1 : decode mi_Blender_blendInto.2.1 1 = .ok (.getfield 12, 3) := by decide +kernel
theorem jd_Blender_blendInto_4 : decode mi_Blender_blendInto.2.1 4 = .ok (.aload_n 2, 1) := by decide +kernel
theorem jd_Blender_blendInto_5 : decode mi_Blender_blendInto.2.1 5 = .ok (.aload_n 3, 1) := by decide +kernel
theorem jd_Blender_blendInto_6 : decode mi_Blender_blendInto.2.1 6 = .ok (.invokevirtual 34, 3) := by decide +kernel
theorem jd_Blender_blendInto_9 : decode mi_Blender_blendInto.2.1 9 = .ok (.aload_n 0, 1) := by decide +kernel
theorem jd_Blender_blendInto_10 : decode mi_Blender_blendInto.2.1 10 = .ok (.getfield 18, 3) := by decide +kernel
theorem jd_Blender_blendInto_13 : decode mi_Blender_blendInto.2.1 13 = .ok (.aload_n 2, 1) := by decide +kernel
theorem jd_Blender_blendInto_14 : decode mi_Blender_blendInto.2.1 14 = .ok (.aload 4, 2) := by decide +kernel
theorem jd_Blender_blendInto_16 : decode mi_Blender_blendInto.2.1 16 = .ok (.invokevirtual 34, 3) := by decide +kernel
theorem jd_Blender_blendInto_19 : decode mi_Blender_blendInto.2.1 19 = .ok (.aload_n 1, 1) := by decide +kernel
theorem jd_Blender_blendInto_20 : decode mi_Blender_blendInto.2.1 20 = .ok (.invokevirtual 38, 3) := by decide +kernel
theorem jd_Blender_blendInto_23 : decode mi_Blender_blendInto.2.1 23 = .ok (.iconst 0, 1) := by decide +kernel
theorem jd_Blender_blendInto_24 : decode mi_Blender_blendInto.2.1 24 = .ok (.istore 5, 2) := by decide +kernel
theorem jd_Blender_blendInto_26 : decode mi_Blender_blendInto.2.1 26 = .ok (.iconst 0, 1) := by decide +kernel
theorem jd_Blender_blendInto_27 : decode mi_Blender_blendInto.2.1 27 = .ok (.istore 6, 2) := by decide +kernel
theorem jd_Blender_blendInto_29 : decode mi_Blender_blendInto.2.1 29 = .ok (.iconst 0, 1) := by decide +kernel
theorem jd_Blender_blendInto_30 : decode mi_Blender_blendInto.2.1 30 = .ok (.istore 7, 2) := by decide +kernel
theorem jd_Blender_blendInto_32 : decode mi_Blender_blendInto.2.1 32 = .ok (.iconst 0, 1) := by decide +kernel
theorem jd_Blender_blendInto_33 : decode mi_Blender_blendInto.2.1 33 = .ok (.istore 8, 2) := by decide +kernel
theorem jd_Blender_blendInto_35 : decode mi_Blender_blendInto.2.1 35 = .ok (.iconst 0, 1) := by decide +kernel
theorem jd_Blender_blendInto_36 : decode mi_Blender_blendInto.2.1 36 = .ok (.istore 9, 2) := by decide +kernel
theorem jd_Blender_blendInto_38 : decode mi_Blender_blendInto.2.1 38 = .ok (.iload 9, 2) := by decide +kernel
theorem jd_Blender_blendInto_40 : decode mi_Blender_blendInto.2.1 40 = .ok (.aload_n 2, 1) := by decide +kernel
theorem jd_Blender_blendInto_41 : decode mi_Blender_blendInto.2.1 41 = .ok (.invokevirtual 41, 3) := by decide +kernel
theorem jd_Blender_blendInto_44 : decode mi_Blender_blendInto.2.1 44 = .ok (.if_icmp .gt 174, 3) := by decide +kernel
theorem jd_Blender_blendInto_47 : decode mi_Blender_blendInto.2.1 47 = .ok (.iload 9, 2) := by decide +kernel
theorem jd_Blender_blendInto_49 : decode mi_Blender_blendInto.2.1 49 = .ok (.aload_n 2, 1) := by decide +kernel
theorem jd_Blender_blendInto_50 : decode mi_Blender_blendInto.2.1 50 = .ok (.invokevirtual 41, 3) := by decide +kernel
theorem jd_Blender_blendInto_53 : decode mi_Blender_blendInto.2.1 53 = .ok (.if_icmp .ne 7, 3) := by decide +kernel
theorem jd_Blender_blendInto_56 : decode mi_Blender_blendInto.2.1 56 = .ok (.iconst 1, 1) := by decide +kernel
theorem jd_Blender_blendInto_57 : decode mi_Blender_blendInto.2.1 57 = .ok (.goto 4, 3) := by decide +kernel
theorem jd_Blender_blendInto_60 : decode mi_Blender_blendInto.2.1 60 = .ok (.iconst 0, 1) := by decide +kernel
theorem jd_Blender_blendInto_61 : decode mi_Blender_blendInto.2.1 61 = .ok (.istore 10, 2) := by decide +kernel
theorem jd_Blender_blendInto_63 : decode mi_Blender_blendInto.2.1 63 = .ok (.iload 10, 2) := by decide +kernel
theorem jd_Blender_blendInto_65 : decode mi_Blender_blendInto.2.1 65 = .ok (.ifCond .eq 10, 3) := by decide +kernel
theorem jd_Blender_blendInto_68 : decode mi_Blender_blendInto.2.1 68 = .ok (.aload_n 3, 1) := by decide +kernel
theorem jd_Blender_blendInto_69 : decode mi_Blender_blendInto.2.1 69 = .ok (.invokevirtual 41, 3) := by decide +kernel
theorem jd_Blender_blendInto_72 : decode mi_Blender_blendInto.2.1 72 = .ok (.goto 12, 3) := by decide +kernel
theorem jd_Blender_blendInto_75 : decode mi_Blender_blendInto.2.1 75 = .ok (.aload_n 0, 1) := by decide +kernel
theorem jd_Blender_blendInto_76 : decode mi_Blender_blendInto.2.1 76 = .ok (.getfield 12, 3) := by decide +kernel
theorem jd_Blender_blendInto_79 : decode mi_Blender_blendInto.2.1 79 = .ok (.iload 9, 2) := by decide +kernel
theorem jd_Blender_blendInto_81 : decode mi_Blender_blendInto.2.1 81 = .ok (.invokevirtual 45, 3) := by decide +kernel
theorem jd_Blender_blendInto_84 : decode mi_Blender_blendInto.2.1 84 = .ok (.istore 11, 2) := by decide +kernel
theorem jd_Blender_blendInto_86 : decode mi_Blender_blendInto.2.1 86 = .ok (.iload 10, 2) := by decide +kernel
theorem jd_Blender_blendInto_88 : decode mi_Blender_blendInto.2.1 88 = .ok (.ifCond .eq 11, 3) := by decide +kernel
theorem jd_Blender_blendInto_91 : decode mi_Blender_blendInto.2.1 91 = .ok (.aload 4, 2) := by decide +kernel
theorem jd_Blender_blendInto_93 : decode mi_Blender_blendInto.2.1 93 = .ok (.invokevirtual 41, 3) := by decide +kernel
theorem jd_Blender_blendInto_96 : decode mi_Blender_blendInto.2.1 96 = .ok (.goto 12, 3) := by decide +kernel
theorem jd_Blender_blendInto_99 : decode mi_Blender_blendInto.2.1 99 = .ok (.aload_n 0, 1) := by decide +kernel
theorem jd_Blender_blendInto_100 : decode mi_Blender_blendInto.2.1 100 = .ok (.getfield 18, 3) := by decide +kernel
theorem jd_Blender_blendInto_103 : decode mi_Blender_blendInto.2.1 103 = .ok (.iload 9, 2) := by decide +kernel
theorem jd_Blender_blendInto_105 : decode mi_Blender_blendInto.2.1 105 = .ok (.invokevirtual 45, 3) := by decide +kernel
theorem jd_Blender_blendInto_108 : decode mi_Blender_blendInto.2.1 108 = .ok (.istore 12, 2) := by decide +kernel
theorem jd_Blender_blendInto_110 : decode mi_Blender_blendInto.2.1 110 = .ok (.iload 11, 2) := by decide +kernel
theorem jd_Blender_blendInto_112 : decode mi_Blender_blendInto.2.1 112 = .ok (.iconst (-1), 1) := by decide +kernel
theorem jd_Blender_blendInto_113 : decode mi_Blender_blendInto.2.1 113 = .ok (.if_icmp .eq 99, 3) := by decide +kernel
theorem jd_Blender_blendInto_116 : decode mi_Blender_blendInto.2.1 116 = .ok (.iload 12, 2) := by decide +kernel
theorem jd_Blender_blendInto_118 : decode mi_Blender_blendInto.2.1 118 = .ok (.iconst (-1), 1) := by decide +kernel
theorem jd_Blender_blendInto_119 : decode mi_Blender_blendInto.2.1 119 = .ok (.if_icmp .eq 93, 3) := by decide +kernel
theorem jd_Blender_blendInto_122 : decode mi_Blender_blendInto.2.1 122 = .ok (.aload_n 0, 1) := by decide +kernel
theorem jd_Blender_blendInto_123 : decode mi_Blender_blendInto.2.1 123 = .ok (.getfield 24, 3) := by decide +kernel
theorem jd_Blender_blendInto_126 : decode mi_Blender_blendInto.2.1 126 = .ok (.aload_n 2, 1) := by decide +kernel
theorem jd_Blender_blendInto_127 : decode mi_Blender_blendInto.2.1 127 = .ok (.iload 6, 2) := by decide +kernel
theorem jd_Blender_blendInto_129 : decode mi_Blender_blendInto.2.1 129 = .ok (.iload 9, 2) := by decide +kernel
theorem jd_Blender_blendInto_131 : decode mi_Blender_blendInto.2.1 131 = .ok (.invokevirtual 49, 3) := by decide +kernel
theorem jd_Blender_blendInto_134 : decode mi_Blender_blendInto.2.1 134 = .ok (.aload_n 0, 1) := by decide +kernel
theorem jd_Blender_blendInto_135 : decode mi_Blender_blendInto.2.1 135 = .ok (.getfield 28, 3) := by decide +kernel
theorem jd_Blender_blendInto_138 : decode mi_Blender_blendInto.2.1 138 = .ok (.aload_n 3, 1) := by decide +kernel
theorem jd_Blender_blendInto_139 : decode mi_Blender_blendInto.2.1 139 = .ok (.iload 7, 2) := by decide +kernel
theorem jd_Blender_blendInto_141 : decode mi_Blender_blendInto.2.1 141 = .ok (.iload 11, 2) := by decide +kernel
theorem jd_Blender_blendInto_143 : decode mi_Blender_blendInto.2.1 143 = .ok (.invokevirtual 49, 3) := by decide +kernel
theorem jd_Blender_blendInto_146 : decode mi_Blender_blendInto.2.1 146 = .ok (.aload_n 0, 1) := by decide +kernel
theorem jd_Blender_blendInto_147 : decode mi_Blender_blendInto.2.1 147 = .ok (.getfield 31, 3) := by decide +kernel
theorem jd_Blender_blendInto_150 : decode mi_Blender_blendInto.2.1 150 = .ok (.aload 4, 2) := by decide +kernel
theorem jd_Blender_blendInto_152 : decode mi_Blender_blendInto.2.1 152 = .ok (.iload 8, 2) := by decide +kernel
theorem jd_Blender_blendInto_154 : decode mi_Blender_blendInto.2.1 154 = .ok (.iload 12, 2) := by decide +kernel
theorem jd_Blender_blendInto_156 : decode mi_Blender_blendInto.2.1 156 = .ok (.invokevirtual 49, 3) := by decide +kernel
theorem jd_Blender_blendInto_159 : decode mi_Blender_blendInto.2.1 159 = .ok (.aload_n 0, 1) := by decide +kernel
theorem jd_Blender_blendInto_160 : decode mi_Blender_blendInto.2.1 160 = .ok (.aload_n 1, 1) := by decide +kernel
theorem jd_Blender_blendInto_161 : decode mi_Blender_blendInto.2.1 161 = .ok (.invokevirtual 53, 3) := by decide +kernel
theorem jd_Blender_blendInto_164 : decode mi_Blender_blendInto.2.1 164 = .ok (.ifCond .ne 8, 3) := by decide +kernel
theorem jd_Blender_blendInto_167 : decode mi_Blender_blendInto.2.1 167 = .ok (.iload 5, 2) := by decide +kernel
theorem jd_Blender_blendInto_169 : decode mi_Blender_blendInto.2.1 169 = .ok (.ifCond .eq 7, 3) := by decide +kernel
theorem jd_Blender_blendInto_172 : decode mi_Blender_blendInto.2.1 172 = .ok (.iconst 1, 1) := by decide +kernel
theorem jd_Blender_blendInto_173 : decode mi_Blender_blendInto.2.1 173 = .ok (.goto 4, 3) := by decide +kernel
theorem jd_Blender_blendInto_176 : decode mi_Blender_blendInto.2.1 176 = .ok (.iconst 0, 1) := by decide +kernel
theorem jd_Blender_blendInto_177 : decode mi_Blender_blendInto.2.1 177 = .ok (.istore 5, 2) := by decide +kernel
theorem jd_Blender_blendInto_179 : decode mi_Blender_blendInto.2.1 179 = .ok (.iload 10, 2) := by decide +kernel
theorem jd_Blender_blendInto_181 : decode mi_Blender_blendInto.2.1 181 = .ok (.ifCond .ne 13, 3) := by decide +kernel
theorem jd_Blender_blendInto_184 : decode mi_Blender_blendInto.2.1 184 = .ok (.aload_n 1, 1) := by decide +kernel
theorem jd_Blender_blendInto_185 : decode mi_Blender_blendInto.2.1 185 = .ok (.aload_n 2, 1) := by decide +kernel
theorem jd_Blender_blendInto_186 : decode mi_Blender_blendInto.2.1 186 = .ok (.iload 9, 2) := by decide +kernel
theorem jd_Blender_blendInto_188 : decode mi_Blender_blendInto.2.1 188 = .ok (.invokevirtual 57, 3) := by decide +kernel
theorem jd_Blender_blendInto_191 : decode mi_Blender_blendInto.2.1 191 = .ok (.invokevirtual 60, 3) := by decide +kernel
theorem jd_Blender_blendInto_194 : decode mi_Blender_blendInto.2.1 194 = .ok (.iload 9, 2) := by decide +kernel
theorem jd_Blender_blendInto_196 : decode mi_Blender_blendInto.2.1 196 = .ok (.iconst 1, 1) := by decide +kernel
theorem jd_Blender_blendInto_197 : decode mi_Blender_blendInto.2.1 197 = .ok (.iadd, 1) := by decide +kernel
theorem jd_Blender_blendInto_198 : decode mi_Blender_blendInto.2.1 198 = .ok (.istore 6, 2) := by decide +kernel
theorem jd_Blender_blendInto_200 : decode mi_Blender_blendInto.2.1 200 = .ok (.iload 11, 2) := by decide +kernel
theorem jd_Blender_blendInto_202 : decode mi_Blender_blendInto.2.1 202 = .ok (.iconst 1, 1) := by decide +kernel
theorem jd_Blender_blendInto_203 : decode mi_Blender_blendInto.2.1 203 = .ok (.iadd, 1) := by decide +kernel
theorem jd_Blender_blendInto_204 : decode mi_Blender_blendInto.2.1 204 = .ok (.istore 7, 2) := by decide +kernel
theorem jd_Blender_blendInto_206 : decode mi_Blender_blendInto.2.1 206 = .ok (.iload 12, 2) := by decide +kernel
theorem jd_Blender_blendInto_208 : decode mi_Blender_blendInto.2.1 208 = .ok (.iconst 1, 1) := by decide +kernel
theorem jd_Blender_blendInto_209 : decode mi_Blender_blendInto.2.1 209 = .ok (.iadd, 1) := by decide +kernel
theorem jd_Blender_blendInto_210 : decode mi_Blender_blendInto.2.1 210 = .ok (.istore 8, 2) := by decide +kernel
theorem jd_Blender_blendInto_212 : decode mi_Blender_blendInto.2.1 212 = .ok (.iinc 9 1, 3) := by decide +kernel
theorem jd_Blender_blendInto_215 : decode mi_Blender_blendInto.2.1 215 = .ok (.goto (-177), 3) := by decide +kernel
theorem jd_Blender_blendInto_218 : decode mi_Blender_blendInto.2.1 218 = .ok (.iload 5, 2) := by decide +kernel
theorem jd_Blender_blendInto_220 : decode mi_Blender_blendInto.2.1 220 = .ok (.ireturn, 1) := by decide +kernel
/-! conflicts, and the blending of three contents -/
abbrev zK : Type := Nat × (Nat → Int × Int)
def KC (o : jw_O) (σ : zS) (c : Nat) (l : zK) : Prop := isK o c ∧ l.1 ≤ 24 ∧ iv σ c 2 = l.1 ∧ ∀ j, j < l.1 → iv σ (c + 1) j = (l.2 j).1 ∧ iv σ (c + 2) j = (l.2 j).2
theorem KC.fr {o : jw_O} {σ σ' : zS} {c b m : Nat} {l : zK} (h : KC o σ c l) (f : zF σ σ' b m) (hd : c + 3 ≤ b ∨ b + m ≤ c) : KC o σ' c l := ⟨h.1, h.2.1, (iv_cell (f _ (by omega)) _).trans h.2.2.1, fun j hj => ⟨(iv_cell (f _ (by omega)) _).trans (h.2.2.2 j hj).1, (iv_cell (f _ (by omega)) _).trans (h.2.2.2 j hj).2⟩⟩
def kTell (l : zK) (x y : Int) : zK := if l.1 < 24 then (l.1 + 1, fun j => if j = l.1 then (x, y) else l.2 j) else l
section
variable {o : jw_O} {σ : zS} {c : Nat} {l : zK}
theorem k_many (h : KC o σ c l) : zRo mi_Conflicts_howMany 0 o [.ref c] σ (some (.int (iI l.1))) := by
  obtain ⟨hc, h1, h2, h3⟩ := h
  refine z_spec (by decide +kernel) (Nat.le_of_ble_eq_true rfl) rfl (fun k hs hR hE => ?_)
  refine jw_aload_n (pc' := 1) jd_Conflicts_howMany_0 rfl rfl rfl ?_
  refine zx_getI (pc' := 4) (kf := 2) jc_Conflicts (by decide) jq_136 jd_Conflicts_howMany_1 (mc_Conflicts _ (by assumption)) rfl rfl ?_
  refine zx_iret hE jd_Conflicts_howMany_4 rfl ?_
  exact ⟨by rw [h2], rfl⟩
theorem k_holds (h : KC o σ c l) (j : Nat) (hj : j < 1000) : zRo mi_Conflicts_holds 0 o [.ref c, .int (iI j)] σ (some (.int (iI (if j < l.1 then 1 else 0)))) := by
  obtain ⟨hc, h1, h2, h3⟩ := h
  refine z_spec (by decide +kernel) (Nat.le_of_ble_eq_true rfl) rfl (fun k hs hR hE => ?_)
  refine jw_iload_n (pc' := 1) jd_Conflicts_holds_0 rfl rfl rfl ?_
  refine zx_if_lt (tgt := 22) (pc' := 4) (by first | exact rg_iv _ _ _ | omega) jd_Conflicts_holds_1 (by decide) rfl (fun q => ?_) (fun q => ?_)
  · exfalso; omega
  refine jw_iload_n (pc' := 5) jd_Conflicts_holds_4 rfl rfl rfl ?_
  refine jw_aload_n (pc' := 6) jd_Conflicts_holds_5 rfl rfl rfl ?_
  refine zx_getI (pc' := 9) (kf := 2) jc_Conflicts (by decide) jq_136 jd_Conflicts_holds_6 (mc_Conflicts _ (by assumption)) rfl rfl ?_
  refine zx_icmp_ge (tgt := 22) (pc' := 12) (by first | exact rg_iv _ _ _ | omega) (by first | exact rg_iv _ _ _ | omega) jd_Conflicts_holds_9 (by decide) rfl (fun q2 => ?_) (fun q2 => ?_)
  · refine zx_iconst (pc' := 23) (n := 0) jd_Conflicts_holds_22 rfl ?_
    refine zx_zret (by first | exact Or.inl rfl | exact Or.inr rfl | assumption | omega) hE jd_Conflicts_holds_23 rfl ?_
    exact ⟨by rw [if_neg (by omega)], rfl⟩
  refine jw_iload_n (pc' := 13) jd_Conflicts_holds_12 rfl rfl rfl ?_
  refine zx_bipush (pc' := 15) (n := 24) jd_Conflicts_holds_13 (by decide +kernel) rfl ?_
  refine zx_icmp_ge (tgt := 22) (pc' := 18) (by first | exact rg_iv _ _ _ | omega) (by first | exact rg_iv _ _ _ | omega) jd_Conflicts_holds_15 (by decide) rfl (fun q3 => ?_) (fun q3 => ?_)
  · exfalso; omega
  refine zx_iconst (pc' := 19) (n := 1) jd_Conflicts_holds_18 rfl ?_
  refine jw_goto (tgt := 23) jd_Conflicts_holds_19 (by decide) ?_
  refine zx_zret (by first | exact Or.inl rfl | exact Or.inr rfl | assumption | omega) hE jd_Conflicts_holds_23 rfl ?_
  exact ⟨by rw [if_pos (by omega)], rfl⟩
theorem k_code (h : KC o σ c l) (j : Nat) (hj : j < l.1) : zRo mi_Conflicts_codeOf 1 o [.ref c, .int (iI j)] σ (some (.int (iI (l.2 j).1))) := by
  have h0 := h
  obtain ⟨hc, h1, h2, h3⟩ := h0
  have e := (h3 j hj).1
  refine z_spec (by decide +kernel) (Nat.le_of_ble_eq_true rfl) rfl (fun k hs hR hE => ?_)
  refine jw_aload_n (pc' := 1) jd_Conflicts_codeOf_0 rfl rfl rfl ?_
  refine jw_iload_n (pc' := 2) jd_Conflicts_codeOf_1 rfl rfl rfl ?_
  refine zx_callV0 (pc' := 5) hR (k_holds h j (by omega)) jm_Conflicts_holds jq_659 jc_Conflicts jd_Conflicts_codeOf_2 (mc_Conflicts _ (by assumption)) rfl rfl (Nat.le_of_ble_eq_true rfl) (by omega) (by decide) rfl rfl ?_
  rw [if_pos hj]
  refine zx_if_eq (tgt := 17) (pc' := 8) (by first | exact rg_iv _ _ _ | omega) jd_Conflicts_codeOf_5 (by decide) rfl (fun q => ?_) (fun q => ?_)
  · exfalso; omega
  refine jw_aload_n (pc' := 9) jd_Conflicts_codeOf_8 rfl rfl rfl ?_
  refine jw_get (pc' := 12) (kf := 0) jc_Conflicts (by decide) jq_134 jd_Conflicts_codeOf_9 (mc_Conflicts _ (by assumption)) rfl rfl ?_
  refine jw_iload_n (pc' := 13) jd_Conflicts_codeOf_12 rfl rfl rfl ?_
  refine zx_iald (pc' := 14) jd_Conflicts_codeOf_13 (ml_Conflicts_codes _ (by assumption)) rfl (by omega) (Nat.le_of_ble_eq_true rfl) rfl ?_
  refine jw_goto (tgt := 18) jd_Conflicts_codeOf_14 (by decide) ?_
  refine zx_iret hE jd_Conflicts_codeOf_18 rfl ?_
  exact ⟨by rw [e], rfl⟩
theorem k_path (h : KC o σ c l) (j : Nat) (hj : j < l.1) : zRo mi_Conflicts_pathOf 1 o [.ref c, .int (iI j)] σ (some (.int (iI (l.2 j).2))) := by
  have h0 := h
  obtain ⟨hc, h1, h2, h3⟩ := h0
  have e := (h3 j hj).2
  refine z_spec (by decide +kernel) (Nat.le_of_ble_eq_true rfl) rfl (fun k hs hR hE => ?_)
  refine jw_aload_n (pc' := 1) jd_Conflicts_pathOf_0 rfl rfl rfl ?_
  refine jw_iload_n (pc' := 2) jd_Conflicts_pathOf_1 rfl rfl rfl ?_
  refine zx_callV0 (pc' := 5) hR (k_holds h j (by omega)) jm_Conflicts_holds jq_659 jc_Conflicts jd_Conflicts_pathOf_2 (mc_Conflicts _ (by assumption)) rfl rfl (Nat.le_of_ble_eq_true rfl) (by omega) (by decide) rfl rfl ?_
  rw [if_pos hj]
  refine zx_if_eq (tgt := 17) (pc' := 8) (by first | exact rg_iv _ _ _ | omega) jd_Conflicts_pathOf_5 (by decide) rfl (fun q => ?_) (fun q => ?_)
  · exfalso; omega
  refine jw_aload_n (pc' := 9) jd_Conflicts_pathOf_8 rfl rfl rfl ?_
  refine jw_get (pc' := 12) (kf := 1) jc_Conflicts (by decide) jq_135 jd_Conflicts_pathOf_9 (mc_Conflicts _ (by assumption)) rfl rfl ?_
  refine jw_iload_n (pc' := 13) jd_Conflicts_pathOf_12 rfl rfl rfl ?_
  refine zx_iald (pc' := 14) jd_Conflicts_pathOf_13 (ml_Conflicts_paths _ (by assumption)) rfl (by omega) (Nat.le_of_ble_eq_true rfl) rfl ?_
  refine jw_goto (tgt := 18) jd_Conflicts_pathOf_14 (by decide) ?_
  refine zx_iret hE jd_Conflicts_pathOf_18 rfl ?_
  exact ⟨by rw [e], rfl⟩
theorem k_tell {x y : Int} (h : KC o σ c l) (hx : -2147483648 ≤ x ∧ x < 2147483648) (hy : -2147483648 ≤ y ∧ y < 2147483648) : zSpec mi_Conflicts_tell 0 o [.ref c, .int (iI x), .int (iI y)] σ (fun v s => v = none ∧ KC o s c (kTell l x y) ∧ zF σ s c 3) := by
  have h0 := h
  obtain ⟨hc, h1, h2, h3⟩ := h0
  refine z_spec (by decide +kernel) (Nat.le_of_ble_eq_true rfl) rfl (fun k hs hR hE => ?_)
  refine jw_aload_n (pc' := 1) jd_Conflicts_tell_0 rfl rfl rfl ?_
  refine zx_getI (pc' := 4) (kf := 2) jc_Conflicts (by decide) jq_136 jd_Conflicts_tell_1 (mc_Conflicts _ (by assumption)) rfl rfl ?_
  refine zx_bipush (pc' := 6) (n := 24) jd_Conflicts_tell_4 (by decide +kernel) rfl ?_
  refine zx_icmp_ge (tgt := 39) (pc' := 9) (by first | exact rg_iv _ _ _ | omega) (by first | exact rg_iv _ _ _ | omega) jd_Conflicts_tell_6 (by decide) rfl (fun q => ?_) (fun q => ?_)
  · refine zx_vret hE jd_Conflicts_tell_39 rfl ?_
    refine ⟨rfl, ?_, zF.rf⟩
    unfold kTell; rw [if_neg (by omega)]; exact h
  · skip
    refine jw_aload_n (pc' := 10) jd_Conflicts_tell_9 rfl rfl rfl ?_
    refine jw_get (pc' := 13) (kf := 0) jc_Conflicts (by decide) jq_134 jd_Conflicts_tell_10 (mc_Conflicts _ (by assumption)) rfl rfl ?_
    refine jw_aload_n (pc' := 14) jd_Conflicts_tell_13 rfl rfl rfl ?_
    refine zx_getI (pc' := 17) (kf := 2) jc_Conflicts (by decide) jq_136 jd_Conflicts_tell_14 (mc_Conflicts _ (by assumption)) rfl rfl ?_
    refine jw_iload_n (pc' := 18) jd_Conflicts_tell_17 rfl rfl rfl ?_
    refine zx_iast (pc' := 19) (j := l.1) jd_Conflicts_tell_18 (ml_Conflicts_codes _ (by assumption)) h2 (by omega) (Nat.le_of_ble_eq_true rfl) rfl ?_
    refine jw_aload_n (pc' := 20) jd_Conflicts_tell_19 rfl rfl rfl ?_
    refine jw_get (pc' := 23) (kf := 1) jc_Conflicts (by decide) jq_135 jd_Conflicts_tell_20 (mc_Conflicts _ (by assumption)) rfl rfl ?_
    refine jw_aload_n (pc' := 24) jd_Conflicts_tell_23 rfl rfl rfl ?_
    refine zx_getI (pc' := 27) (kf := 2) jc_Conflicts (by decide) jq_136 jd_Conflicts_tell_24 (mc_Conflicts _ (by assumption)) rfl rfl ?_
    refine jw_iload_n (pc' := 28) jd_Conflicts_tell_27 rfl rfl rfl ?_
    refine zx_iast (pc' := 29) (j := l.1) jd_Conflicts_tell_28 (ml_Conflicts_paths _ (by assumption)) ((iv_cell (si_ne (by omega)) _).trans h2) (by omega) (Nat.le_of_ble_eq_true rfl) rfl ?_
    refine jw_aload_n (pc' := 30) jd_Conflicts_tell_29 rfl rfl rfl ?_
    refine jw_dup (pc' := 31) jd_Conflicts_tell_30 rfl rfl ?_
    refine zx_getI (pc' := 34) (kf := 2) jc_Conflicts (by decide) jq_136 jd_Conflicts_tell_31 (mc_Conflicts _ (by assumption)) rfl rfl ?_
    refine zx_iconst (pc' := 35) (n := 1) jd_Conflicts_tell_34 rfl ?_
    refine zx_iadd (pc' := 36) jd_Conflicts_tell_35 rfl ?_
    refine zx_putI (pc' := 39) (kf := 2) jc_Conflicts (by decide) jq_136 jd_Conflicts_tell_36 rfl (by decide +kernel) (mc_Conflicts _ (by assumption)) rfl rfl ?_
    refine zx_vret hE jd_Conflicts_tell_39 rfl ?_
    have e : iv (si (si σ (c + 1) l.1 x) (c + 2) l.1 y) c 2 = l.1 := (iv_cell (si_ne (by omega)) _).trans ((iv_cell (si_ne (by omega)) _).trans h2)
    refine ⟨rfl, ⟨hc, ?_, ?_, fun j hj => ?_⟩, ((zF.rf.si (by omega)).si (by omega)).si (by omega)⟩
    · unfold kTell; rw [if_pos (by omega)]; dsimp only; omega
    · rw [iv_si (by omega), if_pos ⟨rfl, rfl⟩, e]
      unfold kTell; rw [if_pos (by omega)]; dsimp only; omega
    · have g1 : iv (si (si (si σ (c + 1) l.1 x) (c + 2) l.1 y) c 2 (iv (si (si σ (c + 1) l.1 x) (c + 2) l.1 y) c 2 + 1)) (c + 1) j = if j = l.1 then x else iv σ (c + 1) j := by
        rw [iv_cell (si_ne (by omega)), iv_cell (si_ne (by omega)), iv_si hx]
        by_cases q9 : j = l.1
        · rw [if_pos ⟨rfl, q9⟩, if_pos q9]
        · rw [if_neg (fun z => q9 z.2), if_neg q9]
      have g2 : iv (si (si (si σ (c + 1) l.1 x) (c + 2) l.1 y) c 2 (iv (si (si σ (c + 1) l.1 x) (c + 2) l.1 y) c 2 + 1)) (c + 2) j = if j = l.1 then y else iv σ (c + 2) j := by
        rw [iv_cell (si_ne (by omega)), iv_si hy]
        by_cases q9 : j = l.1
        · rw [if_pos ⟨rfl, q9⟩, if_pos q9]
        · rw [if_neg (fun z => q9 z.2), if_neg q9, iv_cell (si_ne (by omega))]
      have hk : kTell l x y = (l.1 + 1, fun j => if j = l.1 then (x, y) else l.2 j) := by unfold kTell; rw [if_pos (by omega)]
      rw [hk] at hj ⊢
      rw [g1, g2]
      dsimp only at hj ⊢
      by_cases q9 : j = l.1
      · rw [if_pos q9, if_pos q9, if_pos q9]; exact ⟨rfl, rfl⟩
      · rw [if_neg q9, if_neg q9, if_neg q9]; exact h3 j (by omega)
theorem k_clear (hc : isK o c) : zSpec mi_Conflicts_clear 0 o [.ref c] σ (fun v s => v = none ∧ KC o s c (0, fun _ => (0, 0)) ∧ zF σ s c 3) := by
  refine z_spec (by decide +kernel) (Nat.le_of_ble_eq_true rfl) rfl (fun k hs hR hE => ?_)
  refine jw_aload_n (pc' := 1) jd_Conflicts_clear_0 rfl rfl rfl ?_
  refine zx_iconst (pc' := 2) (n := 0) jd_Conflicts_clear_1 rfl ?_
  refine zx_putI (pc' := 5) (kf := 2) jc_Conflicts (by decide) jq_136 jd_Conflicts_clear_2 rfl (by decide +kernel) (mc_Conflicts _ (by assumption)) rfl rfl ?_
  refine zx_vret hE jd_Conflicts_clear_5 rfl ?_
  exact ⟨rfl, ⟨hc, by simp, by rw [iv_si (by omega), if_pos ⟨rfl, rfl⟩]; rfl, fun j hj => absurd hj (by simp)⟩, zF.rf.si (by omega)⟩
theorem k_drop (h : KC o σ c l) (h0 : 0 < l.1) : zSpec mi_Conflicts_drop 1 o [.ref c, .int (iI 0)] σ (fun v s => v = none ∧ (∃ l2, KC o s c l2 ∧ l2.1 = l.1 - 1) ∧ zF σ s c 3) := by
  have h9 := h
  obtain ⟨hc, h1, h2, h3⟩ := h9
  refine z_spec (by decide +kernel) (Nat.le_of_ble_eq_true rfl) rfl (fun k hs hR hE => ?_)
  refine jw_aload_n (pc' := 1) jd_Conflicts_drop_0 rfl rfl rfl ?_
  refine jw_iload_n (pc' := 2) jd_Conflicts_drop_1 rfl rfl rfl ?_
  refine zx_callV0 (pc' := 5) hR (k_holds h 0 (by omega)) jm_Conflicts_holds jq_659 jc_Conflicts jd_Conflicts_drop_2 (mc_Conflicts _ (by assumption)) rfl rfl (Nat.le_of_ble_eq_true rfl) (by omega) (by decide) rfl rfl ?_
  rw [if_pos h0]
  refine zx_if_ne (tgt := 9) (pc' := 8) (by first | exact rg_iv _ _ _ | omega) jd_Conflicts_drop_5 (by decide) rfl (fun q => ?_) (fun q => ?_)
  rotate_left
  · exfalso; omega
  refine jw_iload_n (pc' := 10) jd_Conflicts_drop_9 rfl rfl rfl ?_
  refine jw_istore_n (pc' := 11) (lc' := [(0, _), (2, _)]) jd_Conflicts_drop_10 rfl (Nat.le_of_ble_eq_true rfl) ⟨rfl, rfl, trivial⟩ rfl ?_
  have loop : ∀ (m i : Nat) (s : zS), i + m = l.1 - 1 → iv s c 2 = l.1 → zF σ s c 3 → jw_X mi_Conflicts_drop o k 0 0 11 [(0, .ref c), (2, .int (iI i))] [] (mm o s) hs := by
    intro m
    induction m with
    | zero =>
      intro i s hi e hF
      refine jw_iload_n (pc' := 12) jd_Conflicts_drop_11 rfl rfl rfl ?_
      refine jw_aload_n (pc' := 13) jd_Conflicts_drop_12 rfl rfl rfl ?_
      refine zx_getI (pc' := 16) (kf := 2) jc_Conflicts (by decide) jq_136 jd_Conflicts_drop_13 (mc_Conflicts _ (by assumption)) rfl rfl ?_
      refine zx_iconst (pc' := 17) (n := 1) jd_Conflicts_drop_16 rfl ?_
      refine zx_isub (pc' := 18) jd_Conflicts_drop_17 rfl ?_
      refine zx_icmp_ge (tgt := 55) (pc' := 21) (by first | exact rg_iv _ _ _ | omega) (by first | exact rg_iv _ _ _ | omega) jd_Conflicts_drop_18 (by decide) rfl (fun q2 => ?_) (fun q2 => ?_)
      rotate_left
      · exfalso; omega
      refine jw_aload_n (pc' := 56) jd_Conflicts_drop_55 rfl rfl rfl ?_
      refine jw_dup (pc' := 57) jd_Conflicts_drop_56 rfl rfl ?_
      refine zx_getI (pc' := 60) (kf := 2) jc_Conflicts (by decide) jq_136 jd_Conflicts_drop_57 (mc_Conflicts _ (by assumption)) rfl rfl ?_
      refine zx_iconst (pc' := 61) (n := 1) jd_Conflicts_drop_60 rfl ?_
      refine zx_isub (pc' := 62) jd_Conflicts_drop_61 rfl ?_
      refine zx_putI (pc' := 65) (kf := 2) jc_Conflicts (by decide) jq_136 jd_Conflicts_drop_62 rfl (by decide +kernel) (mc_Conflicts _ (by assumption)) rfl rfl ?_
      refine zx_vret hE jd_Conflicts_drop_65 rfl ?_
      refine ⟨rfl, ⟨(l.1 - 1, fun j => (iv s (c + 1) j, iv s (c + 2) j)), ⟨hc, by simp only; omega, ?_, fun j hj => ⟨?_, ?_⟩⟩, rfl⟩, hF.si (by omega)⟩
      · rw [iv_si (by omega), if_pos ⟨rfl, rfl⟩]; simp only; omega
      · rw [iv_si (by omega), if_neg (by omega)]
      · rw [iv_si (by omega), if_neg (by omega)]
    | succ m ih =>
      intro i s hi e hF
      refine jw_iload_n (pc' := 12) jd_Conflicts_drop_11 rfl rfl rfl ?_
      refine jw_aload_n (pc' := 13) jd_Conflicts_drop_12 rfl rfl rfl ?_
      refine zx_getI (pc' := 16) (kf := 2) jc_Conflicts (by decide) jq_136 jd_Conflicts_drop_13 (mc_Conflicts _ (by assumption)) rfl rfl ?_
      refine zx_iconst (pc' := 17) (n := 1) jd_Conflicts_drop_16 rfl ?_
      refine zx_isub (pc' := 18) jd_Conflicts_drop_17 rfl ?_
      refine zx_icmp_ge (tgt := 55) (pc' := 21) (by first | exact rg_iv _ _ _ | omega) (by first | exact rg_iv _ _ _ | omega) jd_Conflicts_drop_18 (by decide) rfl (fun q2 => ?_) (fun q2 => ?_)
      · exfalso; omega
      refine jw_aload_n (pc' := 22) jd_Conflicts_drop_21 rfl rfl rfl ?_
      refine jw_get (pc' := 25) (kf := 0) jc_Conflicts (by decide) jq_134 jd_Conflicts_drop_22 (mc_Conflicts _ (by assumption)) rfl rfl ?_
      refine jw_iload_n (pc' := 26) jd_Conflicts_drop_25 rfl rfl rfl ?_
      refine jw_aload_n (pc' := 27) jd_Conflicts_drop_26 rfl rfl rfl ?_
      refine jw_get (pc' := 30) (kf := 0) jc_Conflicts (by decide) jq_134 jd_Conflicts_drop_27 (mc_Conflicts _ (by assumption)) rfl rfl ?_
      refine jw_iload_n (pc' := 31) jd_Conflicts_drop_30 rfl rfl rfl ?_
      refine zx_iconst (pc' := 32) (n := 1) jd_Conflicts_drop_31 rfl ?_
      refine zx_iadd (pc' := 33) jd_Conflicts_drop_32 rfl ?_
      refine zx_iald (pc' := 34) (j := i + 1) jd_Conflicts_drop_33 (ml_Conflicts_codes _ (by assumption)) (by omega) (by omega) (Nat.le_of_ble_eq_true rfl) rfl ?_
      refine zx_iast (pc' := 35) jd_Conflicts_drop_34 (ml_Conflicts_codes _ (by assumption)) rfl (by omega) (Nat.le_of_ble_eq_true rfl) rfl ?_
      refine jw_aload_n (pc' := 36) jd_Conflicts_drop_35 rfl rfl rfl ?_
      refine jw_get (pc' := 39) (kf := 1) jc_Conflicts (by decide) jq_135 jd_Conflicts_drop_36 (mc_Conflicts _ (by assumption)) rfl rfl ?_
      refine jw_iload_n (pc' := 40) jd_Conflicts_drop_39 rfl rfl rfl ?_
      refine jw_aload_n (pc' := 41) jd_Conflicts_drop_40 rfl rfl rfl ?_
      refine jw_get (pc' := 44) (kf := 1) jc_Conflicts (by decide) jq_135 jd_Conflicts_drop_41 (mc_Conflicts _ (by assumption)) rfl rfl ?_
      refine jw_iload_n (pc' := 45) jd_Conflicts_drop_44 rfl rfl rfl ?_
      refine zx_iconst (pc' := 46) (n := 1) jd_Conflicts_drop_45 rfl ?_
      refine zx_iadd (pc' := 47) jd_Conflicts_drop_46 rfl ?_
      refine zx_iald (pc' := 48) (j := i + 1) jd_Conflicts_drop_47 (ml_Conflicts_paths _ (by assumption)) (by omega) (by omega) (Nat.le_of_ble_eq_true rfl) rfl ?_
      refine zx_iast (pc' := 49) jd_Conflicts_drop_48 (ml_Conflicts_paths _ (by assumption)) rfl (by omega) (Nat.le_of_ble_eq_true rfl) rfl ?_
      refine zx_iinc (pc' := 52) (lc' := [(0, _), (2, _)]) jd_Conflicts_drop_49 rfl (Nat.le_of_ble_eq_true rfl) ⟨rfl, rfl, trivial⟩ rfl ?_
      refine jw_goto (tgt := 11) jd_Conflicts_drop_52 (by decide) ?_
      exact ih (i + 1) _ (by omega) ((iv_cell (si_ne (by omega)) _).trans ((iv_cell (si_ne (by omega)) _).trans e)) ((hF.si (by omega)).si (by omega))
  exact loop (l.1 - 1) 0 σ (by omega) h2 zF.rf
theorem k_copyFrom {d : Nat} {b : zK} (hc : isK o c) (h2 : KC o σ d b) (hd : c + 3 ≤ d ∨ d + 3 ≤ c) : zSpec mi_Conflicts_copyFrom 2 o [.ref c, .ref d] σ (fun v s => v = none ∧ KC o s c b ∧ zF σ s c 3) := by
  have hdd := h2.1
  have hb := h2.2.1
  refine z_spec (by decide +kernel) (Nat.le_of_ble_eq_true rfl) rfl (fun k hs hR hE => ?_)
  refine jw_aload_n (pc' := 1) jd_Conflicts_copyFrom_0 rfl rfl rfl ?_
  refine zx_callV (pc' := 4) hR (k_clear hc) jm_Conflicts_clear jq_653 jc_Conflicts jd_Conflicts_copyFrom_1 (mc_Conflicts _ (by assumption)) rfl rfl (Nat.le_of_ble_eq_true rfl) (by omega) (by decide) rfl (fun v9 s1 q9 => ?_)
  obtain ⟨rfl, h1, f1⟩ := q9
  refine zx_iconst (pc' := 5) (n := 0) jd_Conflicts_copyFrom_4 rfl ?_
  refine jw_istore_n (pc' := 6) (lc' := [(0, _), (1, _), (2, _)]) jd_Conflicts_copyFrom_5 rfl (Nat.le_of_ble_eq_true rfl) ⟨rfl, rfl, rfl, trivial⟩ rfl ?_
  have loop : ∀ (m i : Nat) (s : zS) (l : zK), i + m = b.1 → KC o s c l → l.1 = i → (∀ j, j < i → l.2 j = b.2 j) → zF σ s c 3 → jw_X mi_Conflicts_copyFrom o k 0 0 6 [(0, .ref c), (1, .ref d), (2, .int (iI i))] [] (mm o s) hs := by
    intro m
    induction m with
    | zero =>
      intro i s l hi hl hl1 hl2 hF
      refine jw_iload_n (pc' := 7) jd_Conflicts_copyFrom_6 rfl rfl rfl ?_
      refine jw_aload_n (pc' := 8) jd_Conflicts_copyFrom_7 rfl rfl rfl ?_
      refine zx_callV0 (pc' := 11) hR (k_many (h2.fr hF (by omega))) jm_Conflicts_howMany jq_654 jc_Conflicts jd_Conflicts_copyFrom_8 (mc_Conflicts _ (by assumption)) rfl rfl (Nat.le_of_ble_eq_true rfl) (by omega) (by decide) rfl rfl ?_
      refine zx_icmp_ge (tgt := 34) (pc' := 14) (by first | exact rg_iv _ _ _ | omega) (by first | exact rg_iv _ _ _ | omega) jd_Conflicts_copyFrom_11 (by decide) rfl (fun q => ?_) (fun q => ?_)
      rotate_left
      · exfalso; omega
      refine zx_vret hE jd_Conflicts_copyFrom_34 rfl ?_
      obtain ⟨x1, x2, x3, x4⟩ := hl
      exact ⟨rfl, ⟨x1, hb, by omega, fun j hj => by rw [← hl2 j (by omega)]; exact x4 j (by omega)⟩, hF⟩
    | succ m ih =>
      intro i s l hi hl hl1 hl2 hF
      have h3 := h2.fr hF (by omega)
      have r1 : -2147483648 ≤ (b.2 i).1 ∧ (b.2 i).1 < 2147483648 := by rw [← (h2.2.2.2 i (by omega)).1]; exact rg_iv _ _ _
      have r2 : -2147483648 ≤ (b.2 i).2 ∧ (b.2 i).2 < 2147483648 := by rw [← (h2.2.2.2 i (by omega)).2]; exact rg_iv _ _ _
      refine jw_iload_n (pc' := 7) jd_Conflicts_copyFrom_6 rfl rfl rfl ?_
      refine jw_aload_n (pc' := 8) jd_Conflicts_copyFrom_7 rfl rfl rfl ?_
      refine zx_callV0 (pc' := 11) hR (k_many h3) jm_Conflicts_howMany jq_654 jc_Conflicts jd_Conflicts_copyFrom_8 (mc_Conflicts _ (by assumption)) rfl rfl (Nat.le_of_ble_eq_true rfl) (by omega) (by decide) rfl rfl ?_
      refine zx_icmp_ge (tgt := 34) (pc' := 14) (by first | exact rg_iv _ _ _ | omega) (by first | exact rg_iv _ _ _ | omega) jd_Conflicts_copyFrom_11 (by decide) rfl (fun q => ?_) (fun q => ?_)
      · exfalso; omega
      refine jw_aload_n (pc' := 15) jd_Conflicts_copyFrom_14 rfl rfl rfl ?_
      refine jw_aload_n (pc' := 16) jd_Conflicts_copyFrom_15 rfl rfl rfl ?_
      refine jw_iload_n (pc' := 17) jd_Conflicts_copyFrom_16 rfl rfl rfl ?_
      refine zx_callV0 (pc' := 20) hR (k_code h3 i (by omega)) jm_Conflicts_codeOf jq_655 jc_Conflicts jd_Conflicts_copyFrom_17 (mc_Conflicts _ (by assumption)) rfl rfl (Nat.le_of_ble_eq_true rfl) (by omega) (by decide) rfl rfl ?_
      refine jw_aload_n (pc' := 21) jd_Conflicts_copyFrom_20 rfl rfl rfl ?_
      refine jw_iload_n (pc' := 22) jd_Conflicts_copyFrom_21 rfl rfl rfl ?_
      refine zx_callV0 (pc' := 25) hR (k_path h3 i (by omega)) jm_Conflicts_pathOf jq_663 jc_Conflicts jd_Conflicts_copyFrom_22 (mc_Conflicts _ (by assumption)) rfl rfl (Nat.le_of_ble_eq_true rfl) (by omega) (by decide) rfl rfl ?_
      refine zx_callV (pc' := 28) hR (k_tell hl r1 r2) jm_Conflicts_tell jq_667 jc_Conflicts jd_Conflicts_copyFrom_25 (mc_Conflicts _ (by assumption)) rfl rfl (Nat.le_of_ble_eq_true rfl) (by omega) (by decide) rfl (fun v9 s2 q9 => ?_)
      obtain ⟨rfl, h4, f4⟩ := q9
      refine zx_iinc (pc' := 31) (lc' := [(0, _), (1, _), (2, _)]) jd_Conflicts_copyFrom_28 rfl (Nat.le_of_ble_eq_true rfl) ⟨rfl, rfl, rfl, trivial⟩ rfl ?_
      refine jw_goto (tgt := 6) jd_Conflicts_copyFrom_31 (by decide) ?_
      refine ih (i + 1) s2 _ (by omega) h4 ?_ (fun j hj => ?_) (hF.trans f4 (by omega) (by omega))
      · unfold kTell; rw [if_pos (by omega)]; dsimp only; omega
      · unfold kTell; rw [if_pos (by omega)]; dsimp only
        by_cases q9 : j = i
        · rw [if_pos (by omega), q9]
        · rw [if_neg (by omega)]; exact hl2 j (by omega)
  exact loop b.1 0 s1 _ (by omega) h1 rfl (fun j hj => absurd hj (by omega)) f1
end
noncomputable def blP (into bp op tp : zV) : Int × zV := @ite _ (op = bp) (Classical.propDecidable _) (0, vAll into tp) (@ite _ (tp = bp ∨ tp = op) (Classical.propDecidable _) (0, vAll into op) (1, vAll (vAll into op) tp))
theorem vAll_ok {a b : zV} (ha : okV a) (h1 : a.1 = 1) (hb : okV b) : okV (vAll a b) ∧ (vAll a b).1 = 1 := app_it hb.2.1 b.2.1 0 a ha h1
theorem v1_ok : okV v1 ∧ v1.1 = 1 := ⟨⟨Or.inr ⟨rfl, by simp [v1]⟩, fun j => by simp [v1], fun j _ => rfl⟩, rfl⟩
theorem v0_ok : okV v0 := ⟨Or.inl ⟨rfl, rfl⟩, fun j => by simp [v0], fun j _ => rfl⟩
theorem vPart_ok {w : zV} {f e : Nat} (hw : okV w) : okV (vPart w f e) ∧ (vPart w f e).1 = 1 := app_it hw.2.1 (e - f) f v1 v1_ok.1 v1_ok.2
theorem blP_ok {i b p t : zV} (hi : okV i) (h1 : i.1 = 1) (hp : okV p) (ht : okV t) : okV (blP i b p t).2 ∧ (blP i b p t).2.1 = 1 ∧ ((blP i b p t).1 = 0 ∨ (blP i b p t).1 = 1) := by
  unfold blP
  split
  · exact ⟨(vAll_ok hi h1 ht).1, (vAll_ok hi h1 ht).2, Or.inl rfl⟩
  · split
    · exact ⟨(vAll_ok hi h1 hp).1, (vAll_ok hi h1 hp).2, Or.inl rfl⟩
    · have h := vAll_ok hi h1 hp
      exact ⟨(vAll_ok h.1 h.2 ht).1, (vAll_ok h.1 h.2 ht).2, Or.inr rfl⟩
abbrev zB : Type := zV × Int × Nat × Nat × Nat
def blE (w : zV) (F : Nat → Int) (b : zV) (i : Nat) : Int := if i = b.2.1 then (w.2.1 : Int) else F i
noncomputable def blStep (b w t : zV) (F G : Nat → Int) (i : Nat) (u : zB) : zB :=
  if blE w F b i = -1 then u else if blE t G b i = -1 then u else
    (if i = b.2.1 then (blP u.1 (vPart b u.2.2.1 i) (vPart w u.2.2.2.1 (blE w F b i).toNat) (vPart t u.2.2.2.2 (blE t G b i).toNat)).2 else vApp (blP u.1 (vPart b u.2.2.1 i) (vPart w u.2.2.2.1 (blE w F b i).toNat) (vPart t u.2.2.2.2 (blE t G b i).toNat)).2 (b.2.2 i),
     if (blP u.1 (vPart b u.2.2.1 i) (vPart w u.2.2.2.1 (blE w F b i).toNat) (vPart t u.2.2.2.2 (blE t G b i).toNat)).1 = 0 then u.2.1 else 1, i + 1, (blE w F b i).toNat + 1, (blE t G b i).toNat + 1)
noncomputable def blF (b w t : zV) : zB := it (blStep b w t (pairs b w).1 (pairs b t).1) (b.2.1 + 1) 0 (v1, 0, 0, 0, 0)
def blQ (u : zB) : Prop := okV u.1 ∧ u.1.1 = 1 ∧ (u.2.1 = 0 ∨ u.2.1 = 1) ∧ u.2.2.1 ≤ 11 ∧ u.2.2.2.1 ≤ 11 ∧ u.2.2.2.2 ≤ 11
theorem blE_rng {b w : zV} (hb : okV b) (hw : okV w) (i : Nat) : -1 ≤ blE w (pairs b w).1 b i ∧ blE w (pairs b w).1 b i ≤ 10 := by
  have h := (pairs_rng hb hw).1 i
  have := hw.n
  unfold blE
  split <;> omega
theorem blStep_Q {b w t : zV} (hb : okV b) (hw : okV w) (ht : okV t) (i : Nat) (hi : i ≤ 10) (u : zB) (h : blQ u) : blQ (blStep b w t (pairs b w).1 (pairs b t).1 i u) := by
  obtain ⟨h1, h2, h3, h4, h5, h6⟩ := h
  have hp := blP_ok (b := vPart b u.2.2.1 i) h1 h2 (vPart_ok (f := u.2.2.2.1) (e := (blE w (pairs b w).1 b i).toNat) hw).1 (vPart_ok (f := u.2.2.2.2) (e := (blE t (pairs b t).1 b i).toNat) ht).1
  have r1 := blE_rng hb hw i
  have r2 := blE_rng hb ht i
  unfold blStep
  split
  · exact ⟨h1, h2, h3, h4, h5, h6⟩
  · split
    · exact ⟨h1, h2, h3, h4, h5, h6⟩
    · refine ⟨?_, ?_, ?_, by dsimp only; omega, by dsimp only; omega, by dsimp only; omega⟩
      · dsimp only; split
        · exact hp.1
        · exact (vApp_ok hp.1 hp.2.1 (hb.2.1 i)).1
      · dsimp only; split
        · exact hp.2.1
        · exact (vApp_ok hp.1 hp.2.1 (hb.2.1 i)).2
      · dsimp only; split
        · exact h3
        · exact Or.inr rfl
theorem bl0_Q : blQ (v1, 0, 0, 0, 0) := ⟨v1_ok.1, v1_ok.2, Or.inl rfl, by simp, by simp, by simp⟩
theorem blF_Q {b w t : zV} (hb : okV b) (hw : okV w) (ht : okV t) : blQ (blF b w t) := it_inv (N := b.2.1 + 1) (Q := fun _ u => blQ u) (fun i u hi h => blStep_Q hb hw ht i (by have := hb.n; omega) u h) _ 0 _ (by omega) bl0_Q
/-- equal sides are never torn -/
theorem blF_same (b w : zV) : (blF b w w).2.1 = 0 := by
  refine it_inv (N := b.2.1 + 1) (Q := fun _ (u : zB) => u.2.1 = 0 ∧ u.2.2.2.1 = u.2.2.2.2) (fun i u hi h => ?_) (b.2.1 + 1) 0 (v1, 0, 0, 0, 0) (by omega) ⟨rfl, rfl⟩ |>.1
  obtain ⟨h1, h2⟩ := h
  have hp : (blP u.1 (vPart b u.2.2.1 i) (vPart w u.2.2.2.1 (blE w (pairs b w).1 b i).toNat) (vPart w u.2.2.2.2 (blE w (pairs b w).1 b i).toNat)).1 = 0 := by
    rw [← h2]
    unfold blP
    split
    · rfl
    · rw [if_pos (Or.inr rfl)]
  unfold blStep
  by_cases q : blE w (pairs b w).1 b i = -1
  · rw [if_pos q]; exact ⟨h1, h2⟩
  · rw [if_neg q, if_neg q]; dsimp only; rw [if_pos hp]; exact ⟨h1, rfl⟩
def zF2 (σ σ' : zS) (a n b m : Nat) : Prop := ∀ q, (q < a ∨ a + n ≤ q) → (q < b ∨ b + m ≤ q) → σ' q = σ q
theorem zF.l {σ s : zS} {a n b m : Nat} (h : zF σ s a n) : zF2 σ s a n b m := fun q h1 _ => h q h1
theorem zF.r {σ s : zS} {a n b m : Nat} (h : zF σ s b m) : zF2 σ s a n b m := fun q _ h1 => h q h1
theorem zF2.trans {σ s s2 : zS} {a n b m : Nat} (h : zF2 σ s a n b m) (f : zF2 s s2 a n b m) : zF2 σ s2 a n b m := fun q h1 h2 => (f q h1 h2).trans (h q h1 h2)
theorem zF2.tl {σ s s2 : zS} {a n b m c k : Nat} (h : zF2 σ s a n b m) (f : zF s s2 c k) (h1 : a ≤ c) (h2 : c + k ≤ a + n) : zF2 σ s2 a n b m := fun q g1 g2 => (f q (by omega)).trans (h q g1 g2)
theorem zF2.tr {σ s s2 : zS} {a n b m c k : Nat} (h : zF2 σ s a n b m) (f : zF s s2 c k) (h1 : b ≤ c) (h2 : c + k ≤ b + m) : zF2 σ s2 a n b m := fun q g1 g2 => (f q (by omega)).trans (h q g1 g2)
theorem VC.fr2 {o : jw_O} {σ σ' : zS} {c a n b m : Nat} {v : zV} (h : VC o σ c v) (f : zF2 σ σ' a n b m) (hd : c + 2 ≤ a ∨ a + n ≤ c) (hd2 : c + 2 ≤ b ∨ b + m ≤ c) : VC o σ' c v := h.cell (f _ (by omega) (by omega)) (f _ (by omega) (by omega))
theorem TC.fr2 {o : jw_O} {σ σ' : zS} {t a n b m : Nat} {A : zT} (h : TC o σ t A) (f : zF2 σ σ' a n b m) (hd : t + 28 ≤ a ∨ a + n ≤ t) (hd2 : t + 28 ≤ b ∨ b + m ≤ t) : TC o σ' t A := ⟨h.1, fun p hp => (h.2 p hp).fr2 f (by unfold fA; omega) (by unfold fA; omega)⟩
theorem KC.fr2 {o : jw_O} {σ σ' : zS} {c a n b m : Nat} {l : zK} (h : KC o σ c l) (f : zF2 σ σ' a n b m) (hd : c + 3 ≤ a ∨ a + n ≤ c) (hd2 : c + 3 ≤ b ∨ b + m ≤ c) : KC o σ' c l := ⟨h.1, h.2.1, (iv_cell (f _ (by omega) (by omega)) _).trans h.2.2.1, fun j hj => ⟨(iv_cell (f _ (by omega) (by omega)) _).trans (h.2.2.2 j hj).1, (iv_cell (f _ (by omega) (by omega)) _).trans (h.2.2.2 j hj).2⟩⟩
section
variable {o : jw_O} {σ : zS} {c : Nat}
theorem b_parts {a b p t : zV} (hc : VC o σ c a) (h1 : a.1 = 1) (hb : VC o σ (zb o + 960) b) (hp : VC o σ (zb o + 962) p) (ht : VC o σ (zb o + 964) t) (hd : c + 2 ≤ zb o + 951 ∨ zb o + 966 ≤ c) : zSpec mi_Blender_blendParts 2 o [.ref (zb o + 951), .ref c] σ (fun v s => v = some (.int (iI (blP a b p t).1)) ∧ VC o s c (blP a b p t).2 ∧ zF σ s c 2) := by
  have hcc := hc.1
  have hbb := hb.1
  have hpp := hp.1
  have htt := ht.1
  have e1 := eqV_01 p b
  have e2 := eqV_01 t b
  have e3 := eqV_01 t p
  refine z_spec (by decide +kernel) (Nat.le_of_ble_eq_true rfl) rfl (fun k hs hR hE => ?_)
  refine jw_aload_n (pc' := 1) jd_Blender_blendParts_0 rfl rfl rfl ?_
  refine jw_get (pc' := 4) (kf := 3) jc_Blender (by decide) jq_192 jd_Blender_blendParts_1 (mc_Blender _) rfl rfl ?_
  refine jw_aload_n (pc' := 5) jd_Blender_blendParts_4 rfl rfl rfl ?_
  refine jw_get (pc' := 8) (kf := 2) jc_Blender (by decide) jq_191 jd_Blender_blendParts_5 (mc_Blender _) rfl rfl ?_
  refine zx_callV0 (pc' := 11) hR (c_sameAs hp hb) jm_Content_sameAs jq_623 jc_Content jd_Blender_blendParts_8 (mc_Content _ (by assumption)) rfl rfl (Nat.le_of_ble_eq_true rfl) (by omega) (by decide) rfl rfl ?_
  refine zx_if_eq (tgt := 24) (pc' := 14) (by first | exact rg_iv _ _ _ | omega) jd_Blender_blendParts_11 (by decide) rfl (fun q => ?_) (fun q => ?_)
  rotate_left
  · refine jw_aload_n (pc' := 15) jd_Blender_blendParts_14 rfl rfl rfl ?_
    refine jw_aload_n (pc' := 16) jd_Blender_blendParts_15 rfl rfl rfl ?_
    refine jw_get (pc' := 19) (kf := 4) jc_Blender (by decide) jq_193 jd_Blender_blendParts_16 (mc_Blender _) rfl rfl ?_
    refine zx_callV (pc' := 22) hR (c_appendAll hc h1 ht (by omega)) jm_Content_appendAll jq_624 jc_Content jd_Blender_blendParts_19 (mc_Content _ (by assumption)) rfl rfl (Nat.le_of_ble_eq_true rfl) (by omega) (by decide) rfl (fun v9 s1 q9 => ?_)
    obtain ⟨rfl, g1, f1⟩ := q9
    refine zx_iconst (pc' := 23) (n := 0) jd_Blender_blendParts_22 rfl ?_
    refine zx_zret (by first | exact Or.inl rfl | exact Or.inr rfl | assumption | omega) hE jd_Blender_blendParts_23 rfl ?_
    have e : blP a b p t = (0, vAll a t) := by unfold blP; rw [if_pos (eqV_1.mp (by omega))]
    rw [e]; exact ⟨rfl, g1, f1⟩
  have q0 : ¬ p = b := eqV_0.mp q
  refine jw_aload_n (pc' := 25) jd_Blender_blendParts_24 rfl rfl rfl ?_
  refine jw_aload_n (pc' := 26) jd_Blender_blendParts_25 rfl rfl rfl ?_
  refine jw_get (pc' := 29) (kf := 3) jc_Blender (by decide) jq_192 jd_Blender_blendParts_26 (mc_Blender _) rfl rfl ?_
  refine zx_callV (pc' := 32) hR (c_appendAll hc h1 hp (by omega)) jm_Content_appendAll jq_624 jc_Content jd_Blender_blendParts_29 (mc_Content _ (by assumption)) rfl rfl (Nat.le_of_ble_eq_true rfl) (by omega) (by decide) rfl (fun v9 s1 q9 => ?_)
  obtain ⟨rfl, g1, f1⟩ := q9
  refine jw_aload_n (pc' := 33) jd_Blender_blendParts_32 rfl rfl rfl ?_
  refine jw_get (pc' := 36) (kf := 4) jc_Blender (by decide) jq_193 jd_Blender_blendParts_33 (mc_Blender _) rfl rfl ?_
  refine jw_aload_n (pc' := 37) jd_Blender_blendParts_36 rfl rfl rfl ?_
  refine jw_get (pc' := 40) (kf := 2) jc_Blender (by decide) jq_191 jd_Blender_blendParts_37 (mc_Blender _) rfl rfl ?_
  refine zx_callV0 (pc' := 43) hR (c_sameAs (ht.fr f1 (by omega)) (hb.fr f1 (by omega))) jm_Content_sameAs jq_623 jc_Content jd_Blender_blendParts_40 (mc_Content _ (by assumption)) rfl rfl (Nat.le_of_ble_eq_true rfl) (by omega) (by decide) rfl rfl ?_
  refine zx_if_ne (tgt := 60) (pc' := 46) (by first | exact rg_iv _ _ _ | omega) jd_Blender_blendParts_43 (by decide) rfl (fun q2 => ?_) (fun q2 => ?_)
  · refine zx_iconst (pc' := 61) (n := 0) jd_Blender_blendParts_60 rfl ?_
    refine zx_zret (by first | exact Or.inl rfl | exact Or.inr rfl | assumption | omega) hE jd_Blender_blendParts_61 rfl ?_
    have e : blP a b p t = (0, vAll a p) := by unfold blP; rw [if_neg q0, if_pos (Or.inl (eqV_1.mp (by omega)))]
    rw [e]; exact ⟨rfl, g1, f1⟩
  refine jw_aload_n (pc' := 47) jd_Blender_blendParts_46 rfl rfl rfl ?_
  refine jw_get (pc' := 50) (kf := 4) jc_Blender (by decide) jq_193 jd_Blender_blendParts_47 (mc_Blender _) rfl rfl ?_
  refine jw_aload_n (pc' := 51) jd_Blender_blendParts_50 rfl rfl rfl ?_
  refine jw_get (pc' := 54) (kf := 3) jc_Blender (by decide) jq_192 jd_Blender_blendParts_51 (mc_Blender _) rfl rfl ?_
  refine zx_callV0 (pc' := 57) hR (c_sameAs (ht.fr f1 (by omega)) (hp.fr f1 (by omega))) jm_Content_sameAs jq_623 jc_Content jd_Blender_blendParts_54 (mc_Content _ (by assumption)) rfl rfl (Nat.le_of_ble_eq_true rfl) (by omega) (by decide) rfl rfl ?_
  refine zx_if_eq (tgt := 62) (pc' := 60) (by first | exact rg_iv _ _ _ | omega) jd_Blender_blendParts_57 (by decide) rfl (fun q3 => ?_) (fun q3 => ?_)
  rotate_left
  · refine zx_iconst (pc' := 61) (n := 0) jd_Blender_blendParts_60 rfl ?_
    refine zx_zret (by first | exact Or.inl rfl | exact Or.inr rfl | assumption | omega) hE jd_Blender_blendParts_61 rfl ?_
    have e : blP a b p t = (0, vAll a p) := by unfold blP; rw [if_neg q0, if_pos (Or.inr (eqV_1.mp (by omega)))]
    rw [e]; exact ⟨rfl, g1, f1⟩
  refine jw_aload_n (pc' := 63) jd_Blender_blendParts_62 rfl rfl rfl ?_
  refine jw_aload_n (pc' := 64) jd_Blender_blendParts_63 rfl rfl rfl ?_
  refine jw_get (pc' := 67) (kf := 4) jc_Blender (by decide) jq_193 jd_Blender_blendParts_64 (mc_Blender _) rfl rfl ?_
  refine zx_callV (pc' := 70) hR (c_appendAll g1 (vAll_ok hc.2.1 h1 hp.2.1).2 (ht.fr f1 (by omega)) (by omega)) jm_Content_appendAll jq_624 jc_Content jd_Blender_blendParts_67 (mc_Content _ (by assumption)) rfl rfl (Nat.le_of_ble_eq_true rfl) (by omega) (by decide) rfl (fun v9 s2 q9 => ?_)
  obtain ⟨rfl, g2, f2⟩ := q9
  refine zx_iconst (pc' := 71) (n := 1) jd_Blender_blendParts_70 rfl ?_
  refine zx_zret (by first | exact Or.inl rfl | exact Or.inr rfl | assumption | omega) hE jd_Blender_blendParts_71 rfl ?_
  have e : blP a b p t = (1, vAll (vAll a p) t) := by unfold blP; rw [if_neg q0, if_neg (fun z => z.elim (eqV_0.mp q2) (eqV_0.mp q3))]
  rw [e]; exact ⟨rfl, g2, f1.trans f2 (by omega) (by omega)⟩
theorem b_into {cb cw ct : Nat} {b w t : zV} (hc : isC o c) (hb : VC o σ cb b) (hw : VC o σ cw w) (ht : VC o σ ct t) (d1 : c + 2 ≤ cb ∨ cb + 2 ≤ c) (d2 : c + 2 ≤ cw ∨ cw + 2 ≤ c) (d3 : c + 2 ≤ ct ∨ ct + 2 ≤ c) (d4 : c + 2 ≤ zb o + 951 ∨ zb o + 966 ≤ c) (d5 : cb + 2 ≤ zb o + 951 ∨ zb o + 966 ≤ cb) (d6 : cw + 2 ≤ zb o + 951 ∨ zb o + 966 ≤ cw) (d7 : ct + 2 ≤ zb o + 951 ∨ zb o + 966 ≤ ct) : zSpec mi_Blender_blendInto 3 o [.ref (zb o + 951), .ref c, .ref cb, .ref cw, .ref ct] σ (fun v s => v = some (.int (iI (blF b w t).2.1)) ∧ VC o s c (blF b w t).1 ∧ zF2 σ s (zb o + 951) 15 c 2) := by
  have hbb := hb.1
  have hww := hw.1
  have htt := ht.1
  have hbn := hb.2.1.n
  have hwn := hw.2.1.n
  have htn := ht.2.1.n
  have i1 := isM_ours (o := o)
  have i2 := isM_theirs (o := o)
  have i3 := isC_base (o := o)
  have i4 := isC_our (o := o)
  have i5 := isC_their (o := o)
  refine z_spec (by decide +kernel) (Nat.le_of_ble_eq_true rfl) rfl (fun k hs hR hE => ?_)
  refine jw_aload_n (pc' := 1) jd_Blender_blendInto_0 rfl rfl rfl ?_
  refine jw_get (pc' := 4) (kf := 0) jc_Blender (by decide) jq_189 jd_Blender_blendInto_1 (mc_Blender _) rfl rfl ?_
  refine jw_aload_n (pc' := 5) jd_Blender_blendInto_4 rfl rfl rfl ?_
  refine jw_aload_n (pc' := 6) jd_Blender_blendInto_5 rfl rfl rfl ?_
  refine zx_callV (pc' := 9) hR (m_pairUp i1 hb hw (by omega) (by omega)) jm_Match_pairUp jq_597 jc_Match jd_Blender_blendInto_6 (mc_Match _ (by assumption)) rfl rfl (Nat.le_of_ble_eq_true rfl) (by omega) (by decide) rfl (fun v9 s1 q9 => ?_)
  obtain ⟨rfl, p1, -, f1⟩ := q9
  have F1 : zF2 σ s1 (zb o + 951) 15 c 2 := (f1.mono (by omega) (by omega) : zF σ s1 (zb o + 951) 15).l
  refine jw_aload_n (pc' := 10) jd_Blender_blendInto_9 rfl rfl rfl ?_
  refine jw_get (pc' := 13) (kf := 1) jc_Blender (by decide) jq_190 jd_Blender_blendInto_10 (mc_Blender _) rfl rfl ?_
  refine jw_aload_n (pc' := 14) jd_Blender_blendInto_13 rfl rfl rfl ?_
  refine jw_aload (pc' := 16) jd_Blender_blendInto_14 rfl rfl ?_
  refine zx_callV (pc' := 19) hR (m_pairUp i2 (hb.fr2 F1 (by omega) (by omega)) (ht.fr2 F1 (by omega) (by omega)) (by omega) (by omega)) jm_Match_pairUp jq_597 jc_Match jd_Blender_blendInto_16 (mc_Match _ (by assumption)) rfl rfl (Nat.le_of_ble_eq_true rfl) (by omega) (by decide) rfl (fun v9 s2 q9 => ?_)
  obtain ⟨rfl, p2, -, f2⟩ := q9
  refine jw_aload_n (pc' := 20) jd_Blender_blendInto_19 rfl rfl rfl ?_
  refine zx_callV (pc' := 23) hR (c_empty hc) jm_Content_becomeEmpty jq_601 jc_Content jd_Blender_blendInto_20 (mc_Content _ (by assumption)) rfl rfl (Nat.le_of_ble_eq_true rfl) (by omega) (by decide) rfl (fun v9 s3 q9 => ?_)
  obtain ⟨rfl, p3, f3⟩ := q9
  have F3 : zF2 σ s3 (zb o + 951) 15 c 2 := (F1.tl f2 (by omega) (by omega)).tr f3 (by omega) (by omega)
  refine zx_iconst (pc' := 24) (n := 0) jd_Blender_blendInto_23 rfl ?_
  refine jw_istore (pc' := 26) (lc' := [(0, _), (1, _), (2, _), (3, _), (4, _), (5, _)]) jd_Blender_blendInto_24 (Nat.le_of_ble_eq_true rfl) ⟨rfl, rfl, rfl, rfl, rfl, rfl, trivial⟩ rfl ?_
  refine zx_iconst (pc' := 27) (n := 0) jd_Blender_blendInto_26 rfl ?_
  refine jw_istore (pc' := 29) (lc' := [(0, _), (1, _), (2, _), (3, _), (4, _), (5, _), (6, _)]) jd_Blender_blendInto_27 (Nat.le_of_ble_eq_true rfl) ⟨rfl, rfl, rfl, rfl, rfl, rfl, rfl, trivial⟩ rfl ?_
  refine zx_iconst (pc' := 30) (n := 0) jd_Blender_blendInto_29 rfl ?_
  refine jw_istore (pc' := 32) (lc' := [(0, _), (1, _), (2, _), (3, _), (4, _), (5, _), (6, _), (7, _)]) jd_Blender_blendInto_30 (Nat.le_of_ble_eq_true rfl) ⟨rfl, rfl, rfl, rfl, rfl, rfl, rfl, rfl, trivial⟩ rfl ?_
  refine zx_iconst (pc' := 33) (n := 0) jd_Blender_blendInto_32 rfl ?_
  refine jw_istore (pc' := 35) (lc' := [(0, _), (1, _), (2, _), (3, _), (4, _), (5, _), (6, _), (7, _), (8, _)]) jd_Blender_blendInto_33 (Nat.le_of_ble_eq_true rfl) ⟨rfl, rfl, rfl, rfl, rfl, rfl, rfl, rfl, rfl, trivial⟩ rfl ?_
  refine zx_iconst (pc' := 36) (n := 0) jd_Blender_blendInto_35 rfl ?_
  refine jw_istore (pc' := 38) (lc' := [(0, _), (1, _), (2, _), (3, _), (4, _), (5, _), (6, _), (7, _), (8, _), (9, _)]) jd_Blender_blendInto_36 (Nat.le_of_ble_eq_true rfl) ⟨rfl, rfl, rfl, rfl, rfl, rfl, rfl, rfl, rfl, rfl, trivial⟩ rfl ?_
  have loop : ∀ (m i : Nat) (s : zS) (u : zB), i + m = b.2.1 + 1 → blQ u → VC o s c u.1 → (∀ q, q < 10 → iv s (zb o + 954) q = (pairs b w).1 q) → (∀ q, q < 10 → iv s (zb o + 958) q = (pairs b t).1 q) → zF2 σ s (zb o + 951) 15 c 2 → it (blStep b w t (pairs b w).1 (pairs b t).1) m i u = blF b w t → jw_X mi_Blender_blendInto o k 0 0 38 [(0, .ref (zb o + 951)), (1, .ref c), (2, .ref cb), (3, .ref cw), (4, .ref ct), (5, .int (iI u.2.1)), (6, .int (iI u.2.2.1)), (7, .int (iI u.2.2.2.1)), (8, .int (iI u.2.2.2.2)), (9, .int (iI i))] [] (mm o s) hs := by
    intro m
    induction m with
    | zero =>
      intro i s u hi hQ hV hp1 hp2 hF he
      have sb2 := hb.fr2 hF (by omega) (by omega)
      have h01 := hQ.2.2.1
      refine jw_iload (pc' := 40) jd_Blender_blendInto_38 rfl rfl ?_
      refine jw_aload_n (pc' := 41) jd_Blender_blendInto_40 rfl rfl rfl ?_
      refine zx_callV0 (pc' := 44) hR (c_length sb2) jm_Content_length jq_605 jc_Content jd_Blender_blendInto_41 (mc_Content _ (by assumption)) rfl rfl (Nat.le_of_ble_eq_true rfl) (by omega) (by decide) rfl rfl ?_
      refine zx_icmp_gt (tgt := 218) (pc' := 47) (by first | exact rg_iv _ _ _ | omega) (by first | exact rg_iv _ _ _ | omega) jd_Blender_blendInto_44 (by decide) rfl (fun q => ?_) (fun q => ?_)
      rotate_left
      · exfalso; omega
      refine jw_iload (pc' := 220) jd_Blender_blendInto_218 rfl rfl ?_
      refine zx_zret (by first | exact Or.inl rfl | exact Or.inr rfl | assumption | omega) hE jd_Blender_blendInto_220 rfl ?_
      have he : u = blF b w t := he
      rw [← he]; exact ⟨rfl, hV, hF⟩
    | succ m ih =>
      intro i s u hi hQ hV hp1 hp2 hF he
      have sb2 := hb.fr2 hF (by omega) (by omega)
      have sw2 := hw.fr2 hF (by omega) (by omega)
      have st2 := ht.fr2 hF (by omega) (by omega)
      have hst := blStep_Q hb.2.1 hw.2.1 ht.2.1 i (by omega) u hQ
      have he : it (blStep b w t (pairs b w).1 (pairs b t).1) m (i + 1) (blStep b w t (pairs b w).1 (pairs b t).1 i u) = blF b w t := he
      have r1 := blE_rng hb.2.1 hw.2.1 i
      have r2 := blE_rng hb.2.1 ht.2.1 i
      obtain ⟨z1, z2, z3, z4, z5, z6⟩ := hQ
      -- from the two ends on
      have part2 : ∀ (x : Int), (x = 1 ∧ i = b.2.1 ∨ x = 0 ∧ ¬ i = b.2.1) → jw_X mi_Blender_blendInto o k 0 0 110 [(0, .ref (zb o + 951)), (1, .ref c), (2, .ref cb), (3, .ref cw), (4, .ref ct), (5, .int (iI u.2.1)), (6, .int (iI u.2.2.1)), (7, .int (iI u.2.2.2.1)), (8, .int (iI u.2.2.2.2)), (9, .int (iI i)), (10, .int (iI x)), (11, .int (iI (blE w (pairs b w).1 b i))), (12, .int (iI (blE t (pairs b t).1 b i)))] [] (mm o s) hs := by
        intro x hx
        refine jw_iload (pc' := 112) jd_Blender_blendInto_110 rfl rfl ?_
        refine zx_iconst (pc' := 113) (n := -1) jd_Blender_blendInto_112 rfl ?_
        refine zx_icmp_eq (tgt := 212) (pc' := 116) (by first | exact rg_iv _ _ _ | omega) (by first | exact rg_iv _ _ _ | omega) jd_Blender_blendInto_113 (by decide) rfl (fun q1 => ?_) (fun q1 => ?_)
        · refine zx_iinc (pc' := 215) (lc' := [(0, _), (1, _), (2, _), (3, _), (4, _), (5, _), (6, _), (7, _), (8, _), (9, _)]) jd_Blender_blendInto_212 rfl (Nat.le_of_ble_eq_true rfl) ⟨rfl, rfl, rfl, rfl, rfl, rfl, rfl, rfl, rfl, rfl, trivial⟩ rfl ?_
          refine jw_goto (tgt := 38) jd_Blender_blendInto_215 (by decide) ?_
          have e : blStep b w t (pairs b w).1 (pairs b t).1 i u = u := by unfold blStep; rw [if_pos q1]
          rw [e] at he
          exact ih (i + 1) s u (by omega) ⟨z1, z2, z3, z4, z5, z6⟩ hV hp1 hp2 hF he
        refine jw_iload (pc' := 118) jd_Blender_blendInto_116 rfl rfl ?_
        refine zx_iconst (pc' := 119) (n := -1) jd_Blender_blendInto_118 rfl ?_
        refine zx_icmp_eq (tgt := 212) (pc' := 122) (by first | exact rg_iv _ _ _ | omega) (by first | exact rg_iv _ _ _ | omega) jd_Blender_blendInto_119 (by decide) rfl (fun q2 => ?_) (fun q2 => ?_)
        · refine zx_iinc (pc' := 215) (lc' := [(0, _), (1, _), (2, _), (3, _), (4, _), (5, _), (6, _), (7, _), (8, _), (9, _)]) jd_Blender_blendInto_212 rfl (Nat.le_of_ble_eq_true rfl) ⟨rfl, rfl, rfl, rfl, rfl, rfl, rfl, rfl, rfl, rfl, trivial⟩ rfl ?_
          refine jw_goto (tgt := 38) jd_Blender_blendInto_215 (by decide) ?_
          have e : blStep b w t (pairs b w).1 (pairs b t).1 i u = u := by unfold blStep; rw [if_neg q1, if_pos q2]
          rw [e] at he
          exact ih (i + 1) s u (by omega) ⟨z1, z2, z3, z4, z5, z6⟩ hV hp1 hp2 hF he
        obtain ⟨eO, heO⟩ : ∃ n : Nat, blE w (pairs b w).1 b i = n := ⟨(blE w (pairs b w).1 b i).toNat, by omega⟩
        obtain ⟨eT, heT⟩ : ∃ n : Nat, blE t (pairs b t).1 b i = n := ⟨(blE t (pairs b t).1 b i).toNat, by omega⟩
        have hstep : blStep b w t (pairs b w).1 (pairs b t).1 i u = (if i = b.2.1 then (blP u.1 (vPart b u.2.2.1 i) (vPart w u.2.2.2.1 eO) (vPart t u.2.2.2.2 eT)).2 else vApp (blP u.1 (vPart b u.2.2.1 i) (vPart w u.2.2.2.1 eO) (vPart t u.2.2.2.2 eT)).2 (b.2.2 i), if (blP u.1 (vPart b u.2.2.1 i) (vPart w u.2.2.2.1 eO) (vPart t u.2.2.2.2 eT)).1 = 0 then u.2.1 else 1, i + 1, eO + 1, eT + 1) := by
          unfold blStep
          rw [if_neg q1, if_neg q2, heO, heT]
          simp only [Int.toNat_natCast]
        rw [hstep] at he hst
        rw [heO, heT]
        rw [heO] at r1
        rw [heT] at r2
        have hP := blP_ok (b := vPart b u.2.2.1 i) z1 z2 (vPart_ok (f := u.2.2.2.1) (e := eO) hw.2.1).1 (vPart_ok (f := u.2.2.2.2) (e := eT) ht.2.1).1
        refine jw_aload_n (pc' := 123) jd_Blender_blendInto_122 rfl rfl rfl ?_
        refine jw_get (pc' := 126) (kf := 2) jc_Blender (by decide) jq_191 jd_Blender_blendInto_123 (mc_Blender _) rfl rfl ?_
        refine jw_aload_n (pc' := 127) jd_Blender_blendInto_126 rfl rfl rfl ?_
        refine jw_iload (pc' := 129) jd_Blender_blendInto_127 rfl rfl ?_
        refine jw_iload (pc' := 131) jd_Blender_blendInto_129 rfl rfl ?_
        refine zx_callV (pc' := 134) hR (c_part i3 sb2 (by omega) u.2.2.1 i (by omega) (by omega)) jm_Content_becomePart jq_610 jc_Content jd_Blender_blendInto_131 (mc_Content _ (by assumption)) rfl rfl (Nat.le_of_ble_eq_true rfl) (by omega) (by decide) rfl (fun v9 sa q9 => ?_)
        obtain ⟨rfl, ga, fa⟩ := q9
        have Fa : zF2 σ sa (zb o + 951) 15 c 2 := hF.tl fa (by omega) (by omega)
        refine jw_aload_n (pc' := 135) jd_Blender_blendInto_134 rfl rfl rfl ?_
        refine jw_get (pc' := 138) (kf := 3) jc_Blender (by decide) jq_192 jd_Blender_blendInto_135 (mc_Blender _) rfl rfl ?_
        refine jw_aload_n (pc' := 139) jd_Blender_blendInto_138 rfl rfl rfl ?_
        refine jw_iload (pc' := 141) jd_Blender_blendInto_139 rfl rfl ?_
        refine jw_iload (pc' := 143) jd_Blender_blendInto_141 rfl rfl ?_
        refine zx_callV (pc' := 146) hR (c_part i4 (hw.fr2 Fa (by omega) (by omega)) (by omega) u.2.2.2.1 eO (by omega) (by omega)) jm_Content_becomePart jq_610 jc_Content jd_Blender_blendInto_143 (mc_Content _ (by assumption)) rfl rfl (Nat.le_of_ble_eq_true rfl) (by omega) (by decide) rfl (fun v9 sc q9 => ?_)
        obtain ⟨rfl, gc, fc⟩ := q9
        have Fc : zF2 σ sc (zb o + 951) 15 c 2 := Fa.tl fc (by omega) (by omega)
        refine jw_aload_n (pc' := 147) jd_Blender_blendInto_146 rfl rfl rfl ?_
        refine jw_get (pc' := 150) (kf := 4) jc_Blender (by decide) jq_193 jd_Blender_blendInto_147 (mc_Blender _) rfl rfl ?_
        refine jw_aload (pc' := 152) jd_Blender_blendInto_150 rfl rfl ?_
        refine jw_iload (pc' := 154) jd_Blender_blendInto_152 rfl rfl ?_
        refine jw_iload (pc' := 156) jd_Blender_blendInto_154 rfl rfl ?_
        refine zx_callV (pc' := 159) hR (c_part i5 (ht.fr2 Fc (by omega) (by omega)) (by omega) u.2.2.2.2 eT (by omega) (by omega)) jm_Content_becomePart jq_610 jc_Content jd_Blender_blendInto_156 (mc_Content _ (by assumption)) rfl rfl (Nat.le_of_ble_eq_true rfl) (by omega) (by decide) rfl (fun v9 sd q9 => ?_)
        obtain ⟨rfl, gd, fd⟩ := q9
        have Fd : zF2 σ sd (zb o + 951) 15 c 2 := Fc.tl fd (by omega) (by omega)
        have hVd := ((hV.fr fa (by omega)).fr fc (by omega)).fr fd (by omega)
        refine jw_aload_n (pc' := 160) jd_Blender_blendInto_159 rfl rfl rfl ?_
        refine jw_aload_n (pc' := 161) jd_Blender_blendInto_160 rfl rfl rfl ?_
        refine zx_callV (pc' := 164) hR (b_parts hVd z2 ((ga.fr fc (by omega)).fr fd (by omega)) (gc.fr fd (by omega)) gd d4) jm_Blender_blendParts jq_619 jc_Blender jd_Blender_blendInto_161 (mc_Blender _) rfl rfl (Nat.le_of_ble_eq_true rfl) (by omega) (by decide) rfl (fun v9 se q9 => ?_)
        obtain ⟨rfl, ge, fe⟩ := q9
        have Fe : zF2 σ se (zb o + 951) 15 c 2 := Fd.tr fe (by omega) (by omega)
        have hpe1 : ∀ q, q < 10 → iv se (zb o + 954) q = (pairs b w).1 q := fun q hq => by
          rw [iv_cell (fe _ (by omega)), iv_cell (fd _ (by omega)), iv_cell (fc _ (by omega)), iv_cell (fa _ (by omega))]; exact hp1 q hq
        have hpe2 : ∀ q, q < 10 → iv se (zb o + 958) q = (pairs b t).1 q := fun q hq => by
          rw [iv_cell (fe _ (by omega)), iv_cell (fd _ (by omega)), iv_cell (fc _ (by omega)), iv_cell (fa _ (by omega))]; exact hp2 q hq
        have h01 := hP.2.2
        have part3 : ∀ (y : Int), y = (if (blP u.1 (vPart b u.2.2.1 i) (vPart w u.2.2.2.1 eO) (vPart t u.2.2.2.2 eT)).1 = 0 then u.2.1 else 1) → jw_X mi_Blender_blendInto o k 0 0 179 [(0, .ref (zb o + 951)), (1, .ref c), (2, .ref cb), (3, .ref cw), (4, .ref ct), (5, .int (iI y)), (9, .int (iI i)), (10, .int (iI x)), (11, .int (iI eO)), (12, .int (iI eT))] [] (mm o se) hs := by
          intro y hy
          refine jw_iload (pc' := 181) jd_Blender_blendInto_179 rfl rfl ?_
          refine zx_if_ne (tgt := 194) (pc' := 184) (by first | exact rg_iv _ _ _ | omega) jd_Blender_blendInto_181 (by decide) rfl (fun q5 => ?_) (fun q5 => ?_)
          · refine jw_iload (pc' := 196) jd_Blender_blendInto_194 rfl rfl ?_
            refine zx_iconst (pc' := 197) (n := 1) jd_Blender_blendInto_196 rfl ?_
            refine zx_iadd (pc' := 198) jd_Blender_blendInto_197 rfl ?_
            refine jw_istore (pc' := 200) (lc' := [(0, _), (1, _), (2, _), (3, _), (4, _), (5, _), (6, _), (9, _), (11, _), (12, _)]) jd_Blender_blendInto_198 (Nat.le_of_ble_eq_true rfl) ⟨rfl, rfl, rfl, rfl, rfl, rfl, rfl, rfl, rfl, rfl, trivial⟩ rfl ?_
            refine jw_iload (pc' := 202) jd_Blender_blendInto_200 rfl rfl ?_
            refine zx_iconst (pc' := 203) (n := 1) jd_Blender_blendInto_202 rfl ?_
            refine zx_iadd (pc' := 204) jd_Blender_blendInto_203 rfl ?_
            refine jw_istore (pc' := 206) (lc' := [(0, _), (1, _), (2, _), (3, _), (4, _), (5, _), (6, _), (7, _), (9, _), (12, _)]) jd_Blender_blendInto_204 (Nat.le_of_ble_eq_true rfl) ⟨rfl, rfl, rfl, rfl, rfl, rfl, rfl, rfl, rfl, rfl, trivial⟩ rfl ?_
            refine jw_iload (pc' := 208) jd_Blender_blendInto_206 rfl rfl ?_
            refine zx_iconst (pc' := 209) (n := 1) jd_Blender_blendInto_208 rfl ?_
            refine zx_iadd (pc' := 210) jd_Blender_blendInto_209 rfl ?_
            refine jw_istore (pc' := 212) (lc' := [(0, _), (1, _), (2, _), (3, _), (4, _), (5, _), (6, _), (7, _), (8, _), (9, _)]) jd_Blender_blendInto_210 (Nat.le_of_ble_eq_true rfl) ⟨rfl, rfl, rfl, rfl, rfl, rfl, rfl, rfl, rfl, rfl, trivial⟩ rfl ?_
            refine zx_iinc (pc' := 215) (lc' := [(0, _), (1, _), (2, _), (3, _), (4, _), (5, _), (6, _), (7, _), (8, _), (9, _)]) jd_Blender_blendInto_212 rfl (Nat.le_of_ble_eq_true rfl) ⟨rfl, rfl, rfl, rfl, rfl, rfl, rfl, rfl, rfl, rfl, trivial⟩ rfl ?_
            refine jw_goto (tgt := 38) jd_Blender_blendInto_215 (by decide) ?_
            rw [if_pos (show i = b.2.1 by omega), ← hy] at he hst
            exact ih (i + 1) se _ (by omega) hst ge hpe1 hpe2 Fe he
          · have sbe := hb.fr2 Fe (by omega) (by omega)
            refine jw_aload_n (pc' := 185) jd_Blender_blendInto_184 rfl rfl rfl ?_
            refine jw_aload_n (pc' := 186) jd_Blender_blendInto_185 rfl rfl rfl ?_
            refine jw_iload (pc' := 188) jd_Blender_blendInto_186 rfl rfl ?_
            refine zx_callV0 (pc' := 191) hR (c_lineAt sbe i (by omega)) jm_Content_lineAt jq_628 jc_Content jd_Blender_blendInto_188 (mc_Content _ (by assumption)) rfl rfl (Nat.le_of_ble_eq_true rfl) (by omega) (by decide) rfl rfl ?_
            refine zx_callV (pc' := 194) hR (c_append ge hP.2.1 (hb.2.1.2.1 i)) jm_Content_append jq_629 jc_Content jd_Blender_blendInto_191 (mc_Content _ (by assumption)) rfl rfl (Nat.le_of_ble_eq_true rfl) (by omega) (by decide) rfl (fun v9 sg q9 => ?_)
            obtain ⟨rfl, gg, fg⟩ := q9
            refine jw_iload (pc' := 196) jd_Blender_blendInto_194 rfl rfl ?_
            refine zx_iconst (pc' := 197) (n := 1) jd_Blender_blendInto_196 rfl ?_
            refine zx_iadd (pc' := 198) jd_Blender_blendInto_197 rfl ?_
            refine jw_istore (pc' := 200) (lc' := [(0, _), (1, _), (2, _), (3, _), (4, _), (5, _), (6, _), (9, _), (11, _), (12, _)]) jd_Blender_blendInto_198 (Nat.le_of_ble_eq_true rfl) ⟨rfl, rfl, rfl, rfl, rfl, rfl, rfl, rfl, rfl, rfl, trivial⟩ rfl ?_
            refine jw_iload (pc' := 202) jd_Blender_blendInto_200 rfl rfl ?_
            refine zx_iconst (pc' := 203) (n := 1) jd_Blender_blendInto_202 rfl ?_
            refine zx_iadd (pc' := 204) jd_Blender_blendInto_203 rfl ?_
            refine jw_istore (pc' := 206) (lc' := [(0, _), (1, _), (2, _), (3, _), (4, _), (5, _), (6, _), (7, _), (9, _), (12, _)]) jd_Blender_blendInto_204 (Nat.le_of_ble_eq_true rfl) ⟨rfl, rfl, rfl, rfl, rfl, rfl, rfl, rfl, rfl, rfl, trivial⟩ rfl ?_
            refine jw_iload (pc' := 208) jd_Blender_blendInto_206 rfl rfl ?_
            refine zx_iconst (pc' := 209) (n := 1) jd_Blender_blendInto_208 rfl ?_
            refine zx_iadd (pc' := 210) jd_Blender_blendInto_209 rfl ?_
            refine jw_istore (pc' := 212) (lc' := [(0, _), (1, _), (2, _), (3, _), (4, _), (5, _), (6, _), (7, _), (8, _), (9, _)]) jd_Blender_blendInto_210 (Nat.le_of_ble_eq_true rfl) ⟨rfl, rfl, rfl, rfl, rfl, rfl, rfl, rfl, rfl, rfl, trivial⟩ rfl ?_
            refine zx_iinc (pc' := 215) (lc' := [(0, _), (1, _), (2, _), (3, _), (4, _), (5, _), (6, _), (7, _), (8, _), (9, _)]) jd_Blender_blendInto_212 rfl (Nat.le_of_ble_eq_true rfl) ⟨rfl, rfl, rfl, rfl, rfl, rfl, rfl, rfl, rfl, rfl, trivial⟩ rfl ?_
            refine jw_goto (tgt := 38) jd_Blender_blendInto_215 (by decide) ?_
            rw [if_neg (show ¬ i = b.2.1 by omega), ← hy] at he hst
            refine ih (i + 1) sg _ (by omega) hst gg (fun q hq => ?_) (fun q hq => ?_) (Fe.tr fg (by omega) (by omega)) he
            · rw [iv_cell (fg _ (by omega))]; exact hpe1 q hq
            · rw [iv_cell (fg _ (by omega))]; exact hpe2 q hq
        refine zx_if_ne (tgt := 172) (pc' := 167) (by first | exact rg_iv _ _ _ | omega) jd_Blender_blendInto_164 (by decide) rfl (fun q3 => ?_) (fun q3 => ?_)
        · refine zx_iconst (pc' := 173) (n := 1) jd_Blender_blendInto_172 rfl ?_
          refine jw_goto (tgt := 177) jd_Blender_blendInto_173 (by decide) ?_
          refine jw_istore (pc' := 179) (lc' := [(0, _), (1, _), (2, _), (3, _), (4, _), (5, _), (9, _), (10, _), (11, _), (12, _)]) jd_Blender_blendInto_177 (Nat.le_of_ble_eq_true rfl) ⟨rfl, rfl, rfl, rfl, rfl, rfl, rfl, rfl, rfl, rfl, trivial⟩ rfl ?_
          exact part3 1 (by rw [if_neg q3])
        refine jw_iload (pc' := 169) jd_Blender_blendInto_167 rfl rfl ?_
        refine zx_if_eq (tgt := 176) (pc' := 172) (by first | exact rg_iv _ _ _ | omega) jd_Blender_blendInto_169 (by decide) rfl (fun q4 => ?_) (fun q4 => ?_)
        · refine zx_iconst (pc' := 177) (n := 0) jd_Blender_blendInto_176 rfl ?_
          refine jw_istore (pc' := 179) (lc' := [(0, _), (1, _), (2, _), (3, _), (4, _), (5, _), (9, _), (10, _), (11, _), (12, _)]) jd_Blender_blendInto_177 (Nat.le_of_ble_eq_true rfl) ⟨rfl, rfl, rfl, rfl, rfl, rfl, rfl, rfl, rfl, rfl, trivial⟩ rfl ?_
          exact part3 0 (by rw [if_pos q3]; omega)
        · refine zx_iconst (pc' := 173) (n := 1) jd_Blender_blendInto_172 rfl ?_
          refine jw_goto (tgt := 177) jd_Blender_blendInto_173 (by decide) ?_
          refine jw_istore (pc' := 179) (lc' := [(0, _), (1, _), (2, _), (3, _), (4, _), (5, _), (9, _), (10, _), (11, _), (12, _)]) jd_Blender_blendInto_177 (Nat.le_of_ble_eq_true rfl) ⟨rfl, rfl, rfl, rfl, rfl, rfl, rfl, rfl, rfl, rfl, trivial⟩ rfl ?_
          exact part3 1 (by rw [if_pos q3]; omega)
      have part1 : ∀ (x : Int), (x = 1 ∧ i = b.2.1 ∨ x = 0 ∧ ¬ i = b.2.1) → jw_X mi_Blender_blendInto o k 0 0 63 [(0, .ref (zb o + 951)), (1, .ref c), (2, .ref cb), (3, .ref cw), (4, .ref ct), (5, .int (iI u.2.1)), (6, .int (iI u.2.2.1)), (7, .int (iI u.2.2.2.1)), (8, .int (iI u.2.2.2.2)), (9, .int (iI i)), (10, .int (iI x))] [] (mm o s) hs := by
        intro x hx
        refine jw_iload (pc' := 65) jd_Blender_blendInto_63 rfl rfl ?_
        refine zx_if_eq (tgt := 75) (pc' := 68) (by first | exact rg_iv _ _ _ | omega) jd_Blender_blendInto_65 (by decide) rfl (fun q1 => ?_) (fun q1 => ?_)
        · have e1 : iv s (zb o + 952 + 2) i = blE w (pairs b w).1 b i := by unfold blE; rw [if_neg (by omega)]; exact hp1 i (by omega)
          have e2 : iv s (zb o + 956 + 2) i = blE t (pairs b t).1 b i := by unfold blE; rw [if_neg (by omega)]; exact hp2 i (by omega)
          refine jw_aload_n (pc' := 76) jd_Blender_blendInto_75 rfl rfl rfl ?_
          refine jw_get (pc' := 79) (kf := 0) jc_Blender (by decide) jq_189 jd_Blender_blendInto_76 (mc_Blender _) rfl rfl ?_
          refine jw_iload (pc' := 81) jd_Blender_blendInto_79 rfl rfl ?_
          refine zx_callV0 (pc' := 84) hR (m_partB i1 i (by omega)) jm_Match_partnerInB jq_606 jc_Match jd_Blender_blendInto_81 (mc_Match _ (by assumption)) rfl rfl (Nat.le_of_ble_eq_true rfl) (by omega) (by decide) rfl rfl ?_
          rw [e1]
          refine jw_istore (pc' := 86) (lc' := [(0, _), (1, _), (2, _), (3, _), (4, _), (5, _), (6, _), (7, _), (8, _), (9, _), (10, _), (11, _)]) jd_Blender_blendInto_84 (Nat.le_of_ble_eq_true rfl) ⟨rfl, rfl, rfl, rfl, rfl, rfl, rfl, rfl, rfl, rfl, rfl, rfl, trivial⟩ rfl ?_
          refine jw_iload (pc' := 88) jd_Blender_blendInto_86 rfl rfl ?_
          refine zx_if_eq (tgt := 99) (pc' := 91) (by first | exact rg_iv _ _ _ | omega) jd_Blender_blendInto_88 (by decide) rfl (fun q2 => ?_) (fun q2 => ?_)
          rotate_left
          · exfalso; omega
          refine jw_aload_n (pc' := 100) jd_Blender_blendInto_99 rfl rfl rfl ?_
          refine jw_get (pc' := 103) (kf := 1) jc_Blender (by decide) jq_190 jd_Blender_blendInto_100 (mc_Blender _) rfl rfl ?_
          refine jw_iload (pc' := 105) jd_Blender_blendInto_103 rfl rfl ?_
          refine zx_callV0 (pc' := 108) hR (m_partB i2 i (by omega)) jm_Match_partnerInB jq_606 jc_Match jd_Blender_blendInto_105 (mc_Match _ (by assumption)) rfl rfl (Nat.le_of_ble_eq_true rfl) (by omega) (by decide) rfl rfl ?_
          rw [e2]
          refine jw_istore (pc' := 110) (lc' := [(0, _), (1, _), (2, _), (3, _), (4, _), (5, _), (6, _), (7, _), (8, _), (9, _), (10, _), (11, _), (12, _)]) jd_Blender_blendInto_108 (Nat.le_of_ble_eq_true rfl) ⟨rfl, rfl, rfl, rfl, rfl, rfl, rfl, rfl, rfl, rfl, rfl, rfl, rfl, trivial⟩ rfl ?_
          exact part2 x hx
        · have e1 : (w.2.1 : Int) = blE w (pairs b w).1 b i := by unfold blE; rw [if_pos (by omega)]
          have e2 : (t.2.1 : Int) = blE t (pairs b t).1 b i := by unfold blE; rw [if_pos (by omega)]
          refine jw_aload_n (pc' := 69) jd_Blender_blendInto_68 rfl rfl rfl ?_
          refine zx_callV0 (pc' := 72) hR (c_length sw2) jm_Content_length jq_605 jc_Content jd_Blender_blendInto_69 (mc_Content _ (by assumption)) rfl rfl (Nat.le_of_ble_eq_true rfl) (by omega) (by decide) rfl rfl ?_
          rw [e1]
          refine jw_goto (tgt := 84) jd_Blender_blendInto_72 (by decide) ?_
          refine jw_istore (pc' := 86) (lc' := [(0, _), (1, _), (2, _), (3, _), (4, _), (5, _), (6, _), (7, _), (8, _), (9, _), (10, _), (11, _)]) jd_Blender_blendInto_84 (Nat.le_of_ble_eq_true rfl) ⟨rfl, rfl, rfl, rfl, rfl, rfl, rfl, rfl, rfl, rfl, rfl, rfl, trivial⟩ rfl ?_
          refine jw_iload (pc' := 88) jd_Blender_blendInto_86 rfl rfl ?_
          refine zx_if_eq (tgt := 99) (pc' := 91) (by first | exact rg_iv _ _ _ | omega) jd_Blender_blendInto_88 (by decide) rfl (fun q2 => ?_) (fun q2 => ?_)
          · exfalso; omega
          refine jw_aload (pc' := 93) jd_Blender_blendInto_91 rfl rfl ?_
          refine zx_callV0 (pc' := 96) hR (c_length st2) jm_Content_length jq_605 jc_Content jd_Blender_blendInto_93 (mc_Content _ (by assumption)) rfl rfl (Nat.le_of_ble_eq_true rfl) (by omega) (by decide) rfl rfl ?_
          rw [e2]
          refine jw_goto (tgt := 108) jd_Blender_blendInto_96 (by decide) ?_
          refine jw_istore (pc' := 110) (lc' := [(0, _), (1, _), (2, _), (3, _), (4, _), (5, _), (6, _), (7, _), (8, _), (9, _), (10, _), (11, _), (12, _)]) jd_Blender_blendInto_108 (Nat.le_of_ble_eq_true rfl) ⟨rfl, rfl, rfl, rfl, rfl, rfl, rfl, rfl, rfl, rfl, rfl, rfl, rfl, trivial⟩ rfl ?_
          exact part2 x hx
      refine jw_iload (pc' := 40) jd_Blender_blendInto_38 rfl rfl ?_
      refine jw_aload_n (pc' := 41) jd_Blender_blendInto_40 rfl rfl rfl ?_
      refine zx_callV0 (pc' := 44) hR (c_length sb2) jm_Content_length jq_605 jc_Content jd_Blender_blendInto_41 (mc_Content _ (by assumption)) rfl rfl (Nat.le_of_ble_eq_true rfl) (by omega) (by decide) rfl rfl ?_
      refine zx_icmp_gt (tgt := 218) (pc' := 47) (by first | exact rg_iv _ _ _ | omega) (by first | exact rg_iv _ _ _ | omega) jd_Blender_blendInto_44 (by decide) rfl (fun q => ?_) (fun q => ?_)
      · exfalso; omega
      refine jw_iload (pc' := 49) jd_Blender_blendInto_47 rfl rfl ?_
      refine jw_aload_n (pc' := 50) jd_Blender_blendInto_49 rfl rfl rfl ?_
      refine zx_callV0 (pc' := 53) hR (c_length sb2) jm_Content_length jq_605 jc_Content jd_Blender_blendInto_50 (mc_Content _ (by assumption)) rfl rfl (Nat.le_of_ble_eq_true rfl) (by omega) (by decide) rfl rfl ?_
      refine zx_icmp_ne (tgt := 60) (pc' := 56) (by first | exact rg_iv _ _ _ | omega) (by first | exact rg_iv _ _ _ | omega) jd_Blender_blendInto_53 (by decide) rfl (fun q0 => ?_) (fun q0 => ?_)
      · refine zx_iconst (pc' := 61) (n := 0) jd_Blender_blendInto_60 rfl ?_
        refine jw_istore (pc' := 63) (lc' := [(0, _), (1, _), (2, _), (3, _), (4, _), (5, _), (6, _), (7, _), (8, _), (9, _), (10, _)]) jd_Blender_blendInto_61 (Nat.le_of_ble_eq_true rfl) ⟨rfl, rfl, rfl, rfl, rfl, rfl, rfl, rfl, rfl, rfl, rfl, trivial⟩ rfl ?_
        exact part1 0 (by omega)
      · refine zx_iconst (pc' := 57) (n := 1) jd_Blender_blendInto_56 rfl ?_
        refine jw_goto (tgt := 61) jd_Blender_blendInto_57 (by decide) ?_
        refine jw_istore (pc' := 63) (lc' := [(0, _), (1, _), (2, _), (3, _), (4, _), (5, _), (6, _), (7, _), (8, _), (9, _), (10, _)]) jd_Blender_blendInto_61 (Nat.le_of_ble_eq_true rfl) ⟨rfl, rfl, rfl, rfl, rfl, rfl, rfl, rfl, rfl, rfl, rfl, trivial⟩ rfl ?_
        exact part1 1 (by omega)
  exact loop (b.2.1 + 1) 0 s3 (v1, 0, 0, 0, 0) (by omega) bl0_Q p3 (fun q hq => by rw [iv_cell (f3 _ (by omega)), iv_cell (f2 _ (by omega))]; exact p1 q hq) (fun q hq => by rw [iv_cell (f3 _ (by omega))]; exact p2 q hq) F3 rfl
end
end
section
theorem jd_Merger_bring_0 : decode mi_Merger_bring.2.1 0 = .ok (.aload_n 0, 1) := by decide +kernel
theorem jd_Merger_bring_1 : decode mi_Merger_bring.2.1 1 = .ok (.getfield 12, 3) := by decide +kernel
theorem jd_Merger_bring_4 : decode mi_Merger_bring.2.1 4 = .ok (.iload_n 2, 1) := by decide +kernel
theorem jd_Merger_bring_5 : decode mi_Merger_bring.2.1 5 = .ok (.invokevirtual 61, 3) := by decide +kernel
theorem jd_Merger_bring_8 : decode mi_Merger_bring.2.1 8 = .ok (.ifCond .eq 14, 3) := by decide +kernel
theorem jd_Merger_bring_11 : decode mi_Merger_bring.2.1 11 = .ok (.aload_n 0, 1) := by decide +kernel
theorem jd_Merger_bring_12 : decode mi_Merger_bring.2.1 12 = .ok (.getfield 21, 3) := by decide +kernel
theorem jd_Merger_bring_15 : decode mi_Merger_bring.2.1 15 = .ok (.iconst 5, 1) := by decide +kernel
theorem jd_Merger_bring_16 : decode mi_Merger_bring.2.1 16 = .ok (.iload_n 2, 1) := by decide +kernel
theorem jd_Merger_bring_17 : decode mi_Merger_bring.2.1 17 = .ok (.invokevirtual 96, 3) := by decide +kernel
theorem jd_Merger_bring_20 : decode mi_Merger_bring.2.1 20 = .ok (.iconst 0, 1) := by decide +kernel
theorem jd_Merger_bring_21 : decode mi_Merger_bring.2.1 21 = .ok (.ireturn, 1) := by decide +kernel
theorem jd_Merger_bring_22 : decode mi_Merger_bring.2.1 22 = .ok (.aload_n 0, 1) := by decide +kernel
theorem jd_Merger_bring_23 : decode mi_Merger_bring.2.1 23 = .ok (.getfield 12, 3) := by decide +kernel
theorem jd_Merger_bring_26 : decode mi_Merger_bring.2.1 26 = .ok (.iload_n 2, 1) := by decide +kernel
theorem jd_Merger_bring_27 : decode mi_Merger_bring.2.1 27 = .ok (.invokevirtual 73, 3) := by decide +kernel
theorem jd_Merger_bring_30 : decode mi_Merger_bring.2.1 30 = .ok (.aload_n 1, 1) := by decide +kernel
theorem jd_Merger_bring_31 : decode mi_Merger_bring.2.1 31 = .ok (.invokevirtual 108, 3) := by decide +kernel
theorem jd_Merger_bring_34 : decode mi_Merger_bring.2.1 34 = .ok (.iconst 1, 1) := by decide +kernel
theorem jd_Merger_bring_35 : decode mi_Merger_bring.2.1 35 = .ok (.ireturn, 1) := by decide +kernel
theorem jd_Merger_mergeLeftOut_0 : decode mi_Merger_mergeLeftOut.2.1 0 = .ok (.iload 4, 2) := by decide +kernel
theorem jd_Merger_mergeLeftOut_2 : decode mi_Merger_mergeLeftOut.2.1 2 = .ok (.iload_n 3, 1) := by decide +kernel
theorem jd_Merger_mergeLeftOut_3 : decode mi_Merger_mergeLeftOut.2.1 3 = .ok (.if_icmp .ne 23, 3) := by decide +kernel
theorem jd_Merger_mergeLeftOut_6 : decode mi_Merger_mergeLeftOut.2.1 6 = .ok (.aload_n 2, 1) := by decide +kernel
theorem jd_Merger_mergeLeftOut_7 : decode mi_Merger_mergeLeftOut.2.1 7 = .ok (.iload_n 3, 1) := by decide +kernel
theorem jd_Merger_mergeLeftOut_8 : decode mi_Merger_mergeLeftOut.2.1 8 = .ok (.invokevirtual 73, 3) := by decide +kernel
theorem jd_Merger_mergeLeftOut_11 : decode mi_Merger_mergeLeftOut.2.1 11 = .ok (.aload_n 1, 1) := by decide +kernel
theorem jd_Merger_mergeLeftOut_12 : decode mi_Merger_mergeLeftOut.2.1 12 = .ok (.iload_n 3, 1) := by decide +kernel
theorem jd_Merger_mergeLeftOut_13 : decode mi_Merger_mergeLeftOut.2.1 13 = .ok (.invokevirtual 73, 3) := by decide +kernel
theorem jd_Merger_mergeLeftOut_16 : decode mi_Merger_mergeLeftOut.2.1 16 = .ok (.invokevirtual 104, 3) := by decide +kernel
theorem jd_Merger_mergeLeftOut_19 : decode mi_Merger_mergeLeftOut.2.1 19 = .ok (.ifCond .eq 7, 3) := by decide +kernel
theorem jd_Merger_mergeLeftOut_22 : decode mi_Merger_mergeLeftOut.2.1 22 = .ok (.iconst 1, 1) := by decide +kernel
theorem jd_Merger_mergeLeftOut_23 : decode mi_Merger_mergeLeftOut.2.1 23 = .ok (.goto 4, 3) := by decide +kernel
theorem jd_Merger_mergeLeftOut_26 : decode mi_Merger_mergeLeftOut.2.1 26 = .ok (.iconst 0, 1) := by decide +kernel
theorem jd_Merger_mergeLeftOut_27 : decode mi_Merger_mergeLeftOut.2.1 27 = .ok (.istore 5, 2) := by decide +kernel
theorem jd_Merger_mergeLeftOut_29 : decode mi_Merger_mergeLeftOut.2.1 29 = .ok (.iload 5, 2) := by decide +kernel
theorem jd_Merger_mergeLeftOut_31 : decode mi_Merger_mergeLeftOut.2.1 31 = .ok (.ifCond .ne 28, 3) := by decide +kernel
theorem jd_Merger_mergeLeftOut_34 : decode mi_Merger_mergeLeftOut.2.1 34 = .ok (.aload_n 0, 1) := by decide +kernel
theorem jd_Merger_mergeLeftOut_35 : decode mi_Merger_mergeLeftOut.2.1 35 = .ok (.aload_n 2, 1) := by decide +kernel
theorem jd_Merger_mergeLeftOut_36 : decode mi_Merger_mergeLeftOut.2.1 36 = .ok (.iload 4, 2) := by decide +kernel
theorem jd_Merger_mergeLeftOut_38 : decode mi_Merger_mergeLeftOut.2.1 38 = .ok (.invokevirtual 73, 3) := by decide +kernel
theorem jd_Merger_mergeLeftOut_41 : decode mi_Merger_mergeLeftOut.2.1 41 = .ok (.iload 4, 2) := by decide +kernel
theorem jd_Merger_mergeLeftOut_43 : decode mi_Merger_mergeLeftOut.2.1 43 = .ok (.invokevirtual 77, 3) := by decide +kernel
theorem jd_Merger_mergeLeftOut_46 : decode mi_Merger_mergeLeftOut.2.1 46 = .ok (.ifCond .eq 13, 3) := by decide +kernel
theorem jd_Merger_mergeLeftOut_49 : decode mi_Merger_mergeLeftOut.2.1 49 = .ok (.aload_n 0, 1) := by decide +kernel
theorem jd_Merger_mergeLeftOut_50 : decode mi_Merger_mergeLeftOut.2.1 50 = .ok (.getfield 21, 3) := by decide +kernel
theorem jd_Merger_mergeLeftOut_53 : decode mi_Merger_mergeLeftOut.2.1 53 = .ok (.iconst 1, 1) := by decide +kernel
theorem jd_Merger_mergeLeftOut_54 : decode mi_Merger_mergeLeftOut.2.1 54 = .ok (.iload 4, 2) := by decide +kernel
theorem jd_Merger_mergeLeftOut_56 : decode mi_Merger_mergeLeftOut.2.1 56 = .ok (.invokevirtual 96, 3) := by decide +kernel
theorem jd_Merger_mergeLeftOut_59 : decode mi_Merger_mergeLeftOut.2.1 59 = .ok (.return_, 1) := by decide +kernel
theorem jd_Merger_joinNew_0 : decode mi_Merger_joinNew.2.1 0 = .ok (.aload_n 1, 1) := by decide +kernel
theorem jd_Merger_joinNew_1 : decode mi_Merger_joinNew.2.1 1 = .ok (.aload_n 2, 1) := by decide +kernel
theorem jd_Merger_joinNew_2 : decode mi_Merger_joinNew.2.1 2 = .ok (.invokevirtual 104, 3) := by decide +kernel
theorem jd_Merger_joinNew_5 : decode mi_Merger_joinNew.2.1 5 = .ok (.ifCond .ne 34, 3) := by decide +kernel
theorem jd_Merger_joinNew_8 : decode mi_Merger_joinNew.2.1 8 = .ok (.aload_n 0, 1) := by decide +kernel
theorem jd_Merger_joinNew_9 : decode mi_Merger_joinNew.2.1 9 = .ok (.getfield 38, 3) := by decide +kernel
theorem jd_Merger_joinNew_12 : decode mi_Merger_joinNew.2.1 12 = .ok (.aload_n 0, 1) := by decide +kernel
theorem jd_Merger_joinNew_13 : decode mi_Merger_joinNew.2.1 13 = .ok (.getfield 12, 3) := by decide +kernel
theorem jd_Merger_joinNew_16 : decode mi_Merger_joinNew.2.1 16 = .ok (.iload_n 3, 1) := by decide +kernel
theorem jd_Merger_joinNew_17 : decode mi_Merger_joinNew.2.1 17 = .ok (.invokevirtual 73, 3) := by decide +kernel
theorem jd_Merger_joinNew_20 : decode mi_Merger_joinNew.2.1 20 = .ok (.aload_n 0, 1) := by decide +kernel
theorem jd_Merger_joinNew_21 : decode mi_Merger_joinNew.2.1 21 = .ok (.getfield 45, 3) := by decide +kernel
theorem jd_Merger_joinNew_24 : decode mi_Merger_joinNew.2.1 24 = .ok (.aload_n 1, 1) := by decide +kernel
theorem jd_Merger_joinNew_25 : decode mi_Merger_joinNew.2.1 25 = .ok (.aload_n 2, 1) := by decide +kernel
theorem jd_Merger_joinNew_26 : decode mi_Merger_joinNew.2.1 26 = .ok (.invokevirtual 100, 3) := by decide +kernel
theorem jd_Merger_joinNew_29 : decode mi_Merger_joinNew.2.1 29 = .ok (.pop, 1) := by decide +kernel
theorem jd_Merger_joinNew_30 : decode mi_Merger_joinNew.2.1 30 = .ok (.aload_n 0, 1) := by decide +kernel
theorem jd_Merger_joinNew_31 : decode mi_Merger_joinNew.2.1 31 = .ok (.getfield 21, 3) := by decide +kernel
theorem jd_Merger_joinNew_34 : decode mi_Merger_joinNew.2.1 34 = .ok (.iconst 4, 1) := by decide +kernel
theorem jd_Merger_joinNew_35 : decode mi_Merger_joinNew.2.1 35 = .ok (.iload_n 3, 1) := by decide +kernel
theorem jd_Merger_joinNew_36 : decode mi_Merger_joinNew.2.1 36 = .ok (.invokevirtual 96, 3) := by decide +kernel
theorem jd_Merger_joinNew_39 : decode mi_Merger_joinNew.2.1 39 = .ok (.return_, 1) := by decide +kernel
theorem jd_Merger_mergeFile_0 : decode mi_Merger_mergeFile.2.1 0 = .ok (.aload_n 0, 1) := by decide +kernel
theorem jd_Merger_mergeFile_1 : decode mi_Merger_mergeFile.2.1 1 = .ok (.getfield 28, 3) := by decide +kernel
theorem jd_Merger_mergeFile_4 : decode mi_Merger_mergeFile.2.1 4 = .ok (.iload 4, 2) := by decide +kernel
theorem jd_Merger_mergeFile_6 : decode mi_Merger_mergeFile.2.1 6 = .ok (.invokevirtual 89, 3) := by decide +kernel
theorem jd_Merger_mergeFile_9 : decode mi_Merger_mergeFile.2.1 9 = .ok (.istore 5, 2) := by decide +kernel
theorem jd_Merger_mergeFile_11 : decode mi_Merger_mergeFile.2.1 11 = .ok (.aload_n 0, 1) := by decide +kernel
theorem jd_Merger_mergeFile_12 : decode mi_Merger_mergeFile.2.1 12 = .ok (.getfield 32, 3) := by decide +kernel
theorem jd_Merger_mergeFile_15 : decode mi_Merger_mergeFile.2.1 15 = .ok (.iload 4, 2) := by decide +kernel
theorem jd_Merger_mergeFile_17 : decode mi_Merger_mergeFile.2.1 17 = .ok (.invokevirtual 89, 3) := by decide +kernel
theorem jd_Merger_mergeFile_20 : decode mi_Merger_mergeFile.2.1 20 = .ok (.istore 6, 2) := by decide +kernel
theorem jd_Merger_mergeFile_22 : decode mi_Merger_mergeFile.2.1 22 = .ok (.iload 5, 2) := by decide +kernel
theorem jd_Merger_mergeFile_24 : decode mi_Merger_mergeFile.2.1 24 = .ok (.iconst (-1), 1) := by decide +kernel
theorem jd_Merger_mergeFile_25 : decode mi_Merger_mergeFile.2.1 25 = .ok (.if_icmp .ne 10, 3) := by decide +kernel
theorem jd_Merger_mergeFile_28 : decode mi_Merger_mergeFile.2.1 28 = .ok (.iload 6, 2) := by decide +kernel
theorem jd_Merger_mergeFile_30 : decode mi_Merger_mergeFile.2.1 30 = .ok (.iconst (-1), 1) := by decide +kernel
theorem jd_Merger_mergeFile_31 : decode mi_Merger_mergeFile.2.1 31 = .ok (.if_icmp .ne 4, 3) := by decide +kernel
theorem jd_Merger_mergeFile_34 : decode mi_Merger_mergeFile.2.1 34 = .ok (.return_, 1) := by decide +kernel
theorem jd_Merger_mergeFile_35 : decode mi_Merger_mergeFile.2.1 35 = .ok (.iload 5, 2) := by decide +kernel
theorem jd_Merger_mergeFile_37 : decode mi_Merger_mergeFile.2.1 37 = .ok (.iconst (-1), 1) := by decide +kernel
theorem jd_Merger_mergeFile_38 : decode mi_Merger_mergeFile.2.1 38 = .ok (.if_icmp .ne 14, 3) := by decide +kernel
theorem jd_Merger_mergeFile_41 : decode mi_Merger_mergeFile.2.1 41 = .ok (.aload_n 0, 1) := by decide +kernel
theorem jd_Merger_mergeFile_42 : decode mi_Merger_mergeFile.2.1 42 = .ok (.aload_n 1, 1) := by decide +kernel
theorem jd_Merger_mergeFile_43 : decode mi_Merger_mergeFile.2.1 43 = .ok (.aload_n 3, 1) := by decide +kernel
theorem jd_Merger_mergeFile_44 : decode mi_Merger_mergeFile.2.1 44 = .ok (.iload 4, 2) := by decide +kernel
theorem jd_Merger_mergeFile_46 : decode mi_Merger_mergeFile.2.1 46 = .ok (.iload 6, 2) := by decide +kernel
theorem jd_Merger_mergeFile_48 : decode mi_Merger_mergeFile.2.1 48 = .ok (.invokevirtual 92, 3) := by decide +kernel
theorem jd_Merger_mergeFile_51 : decode mi_Merger_mergeFile.2.1 51 = .ok (.return_, 1) := by decide +kernel
theorem jd_Merger_mergeFile_52 : decode mi_Merger_mergeFile.2.1 52 = .ok (.iload 6, 2) := by decide +kernel
theorem jd_Merger_mergeFile_54 : decode mi_Merger_mergeFile.2.1 54 = .ok (.iconst (-1), 1) := by decide +kernel
theorem jd_Merger_mergeFile_55 : decode mi_Merger_mergeFile.2.1 55 = .ok (.if_icmp .ne 14, 3) := by decide +kernel
theorem jd_Merger_mergeFile_58 : decode mi_Merger_mergeFile.2.1 58 = .ok (.aload_n 0, 1) := by decide +kernel
theorem jd_Merger_mergeFile_59 : decode mi_Merger_mergeFile.2.1 59 = .ok (.aload_n 1, 1) := by decide +kernel
theorem jd_Merger_mergeFile_60 : decode mi_Merger_mergeFile.2.1 60 = .ok (.aload_n 2, 1) := by decide +kernel
theorem jd_Merger_mergeFile_61 : decode mi_Merger_mergeFile.2.1 61 = .ok (.iload 4, 2) := by decide +kernel
theorem jd_Merger_mergeFile_63 : decode mi_Merger_mergeFile.2.1 63 = .ok (.iload 5, 2) := by decide +kernel
theorem jd_Merger_mergeFile_65 : decode mi_Merger_mergeFile.2.1 65 = .ok (.invokevirtual 92, 3) := by decide +kernel
theorem jd_Merger_mergeFile_68 : decode mi_Merger_mergeFile.2.1 68 = .ok (.return_, 1) := by decide +kernel
theorem jd_Merger_mergeFile_69 : decode mi_Merger_mergeFile.2.1 69 = .ok (.iload 5, 2) := by decide +kernel
theorem jd_Merger_mergeFile_71 : decode mi_Merger_mergeFile.2.1 71 = .ok (.iload 4, 2) := by decide +kernel
theorem jd_Merger_mergeFile_73 : decode mi_Merger_mergeFile.2.1 73 = .ok (.if_icmp .ne 8, 3) := by decide +kernel
theorem jd_Merger_mergeFile_76 : decode mi_Merger_mergeFile.2.1 76 = .ok (.iload 6, 2) := by decide +kernel
theorem jd_Merger_mergeFile_78 : decode mi_Merger_mergeFile.2.1 78 = .ok (.goto 5, 3) := by decide +kernel
theorem jd_Merger_mergeFile_81 : decode mi_Merger_mergeFile.2.1 81 = .ok (.iload 5, 2) := by decide +kernel
theorem jd_Merger_mergeFile_83 : decode mi_Merger_mergeFile.2.1 83 = .ok (.istore 7, 2) := by decide +kernel
theorem jd_Merger_mergeFile_85 : decode mi_Merger_mergeFile.2.1 85 = .ok (.aload_n 0, 1) := by decide +kernel
theorem jd_Merger_mergeFile_86 : decode mi_Merger_mergeFile.2.1 86 = .ok (.getfield 12, 3) := by decide +kernel
theorem jd_Merger_mergeFile_89 : decode mi_Merger_mergeFile.2.1 89 = .ok (.iload 7, 2) := by decide +kernel
theorem jd_Merger_mergeFile_91 : decode mi_Merger_mergeFile.2.1 91 = .ok (.invokevirtual 61, 3) := by decide +kernel
theorem jd_Merger_mergeFile_94 : decode mi_Merger_mergeFile.2.1 94 = .ok (.ifCond .eq 14, 3) := by decide +kernel
theorem jd_Merger_mergeFile_97 : decode mi_Merger_mergeFile.2.1 97 = .ok (.aload_n 0, 1) := by decide +kernel
theorem jd_Merger_mergeFile_98 : decode mi_Merger_mergeFile.2.1 98 = .ok (.getfield 21, 3) := by decide +kernel
theorem jd_Merger_mergeFile_101 : decode mi_Merger_mergeFile.2.1 101 = .ok (.iconst 5, 1) := by decide +kernel
theorem jd_Merger_mergeFile_102 : decode mi_Merger_mergeFile.2.1 102 = .ok (.iload 7, 2) := by decide +kernel
theorem jd_Merger_mergeFile_104 : decode mi_Merger_mergeFile.2.1 104 = .ok (.invokevirtual 96, 3) := by decide +kernel
theorem jd_Merger_mergeFile_107 : decode mi_Merger_mergeFile.2.1 107 = .ok (.return_, 1) := by decide +kernel
theorem jd_Merger_mergeFile_108 : decode mi_Merger_mergeFile.2.1 108 = .ok (.iload 6, 2) := by decide +kernel
theorem jd_Merger_mergeFile_110 : decode mi_Merger_mergeFile.2.1 110 = .ok (.iload 7, 2) := by decide +kernel
theorem jd_Merger_mergeFile_112 : decode mi_Merger_mergeFile.2.1 112 = .ok (.if_icmp .eq 20, 3) := by decide +kernel
theorem jd_Merger_mergeFile_115 : decode mi_Merger_mergeFile.2.1 115 = .ok (.iload 6, 2) := by decide +kernel
theorem jd_Merger_mergeFile_117 : decode mi_Merger_mergeFile.2.1 117 = .ok (.iload 4, 2) := by decide +kernel
theorem jd_Merger_mergeFile_119 : decode mi_Merger_mergeFile.2.1 119 = .ok (.if_icmp .eq 13, 3) := by decide +kernel
theorem jd_Merger_mergeFile_122 : decode mi_Merger_mergeFile.2.1 122 = .ok (.aload_n 0, 1) := by decide +kernel
theorem jd_Merger_mergeFile_123 : decode mi_Merger_mergeFile.2.1 123 = .ok (.getfield 21, 3) := by decide +kernel
theorem jd_Merger_mergeFile_126 : decode mi_Merger_mergeFile.2.1 126 = .ok (.iconst 2, 1) := by decide +kernel
theorem jd_Merger_mergeFile_127 : decode mi_Merger_mergeFile.2.1 127 = .ok (.iload 7, 2) := by decide +kernel
theorem jd_Merger_mergeFile_129 : decode mi_Merger_mergeFile.2.1 129 = .ok (.invokevirtual 96, 3) := by decide +kernel
theorem jd_Merger_mergeFile_132 : decode mi_Merger_mergeFile.2.1 132 = .ok (.aload_n 0, 1) := by decide +kernel
theorem jd_Merger_mergeFile_133 : decode mi_Merger_mergeFile.2.1 133 = .ok (.getfield 12, 3) := by decide +kernel
theorem jd_Merger_mergeFile_136 : decode mi_Merger_mergeFile.2.1 136 = .ok (.iload 7, 2) := by decide +kernel
theorem jd_Merger_mergeFile_138 : decode mi_Merger_mergeFile.2.1 138 = .ok (.invokevirtual 73, 3) := by decide +kernel
theorem jd_Merger_mergeFile_141 : decode mi_Merger_mergeFile.2.1 141 = .ok (.astore 8, 2) := by decide +kernel
theorem jd_Merger_mergeFile_143 : decode mi_Merger_mergeFile.2.1 143 = .ok (.aload_n 0, 1) := by decide +kernel
theorem jd_Merger_mergeFile_144 : decode mi_Merger_mergeFile.2.1 144 = .ok (.getfield 38, 3) := by decide +kernel
theorem jd_Merger_mergeFile_147 : decode mi_Merger_mergeFile.2.1 147 = .ok (.aload 8, 2) := by decide +kernel
theorem jd_Merger_mergeFile_149 : decode mi_Merger_mergeFile.2.1 149 = .ok (.aload_n 1, 1) := by decide +kernel
theorem jd_Merger_mergeFile_150 : decode mi_Merger_mergeFile.2.1 150 = .ok (.iload 4, 2) := by decide +kernel
theorem jd_Merger_mergeFile_152 : decode mi_Merger_mergeFile.2.1 152 = .ok (.invokevirtual 73, 3) := by decide +kernel
theorem jd_Merger_mergeFile_155 : decode mi_Merger_mergeFile.2.1 155 = .ok (.aload_n 2, 1) := by decide +kernel
theorem jd_Merger_mergeFile_156 : decode mi_Merger_mergeFile.2.1 156 = .ok (.iload 5, 2) := by decide +kernel
theorem jd_Merger_mergeFile_158 : decode mi_Merger_mergeFile.2.1 158 = .ok (.invokevirtual 73, 3) := by decide +kernel
theorem jd_Merger_mergeFile_161 : decode mi_Merger_mergeFile.2.1 161 = .ok (.aload_n 3, 1) := by decide +kernel
theorem jd_Merger_mergeFile_162 : decode mi_Merger_mergeFile.2.1 162 = .ok (.iload 6, 2) := by decide +kernel
theorem jd_Merger_mergeFile_164 : decode mi_Merger_mergeFile.2.1 164 = .ok (.invokevirtual 73, 3) := by decide +kernel
theorem jd_Merger_mergeFile_167 : decode mi_Merger_mergeFile.2.1 167 = .ok (.invokevirtual 100, 3) := by decide +kernel
theorem jd_Merger_mergeFile_170 : decode mi_Merger_mergeFile.2.1 170 = .ok (.ifCond .eq 13, 3) := by decide +kernel
theorem jd_Merger_mergeFile_173 : decode mi_Merger_mergeFile.2.1 173 = .ok (.aload_n 0, 1) := by decide +kernel
theorem jd_Merger_mergeFile_174 : decode mi_Merger_mergeFile.2.1 174 = .ok (.getfield 21, 3) := by decide +kernel
theorem jd_Merger_mergeFile_177 : decode mi_Merger_mergeFile.2.1 177 = .ok (.iconst 3, 1) := by decide +kernel
theorem jd_Merger_mergeFile_178 : decode mi_Merger_mergeFile.2.1 178 = .ok (.iload 7, 2) := by decide +kernel
theorem jd_Merger_mergeFile_180 : decode mi_Merger_mergeFile.2.1 180 = .ok (.invokevirtual 96, 3) := by decide +kernel
theorem jd_Merger_mergeFile_183 : decode mi_Merger_mergeFile.2.1 183 = .ok (.return_, 1) := by decide +kernel
theorem jd_Merger_isNew_0 : decode mi_Merger_isNew.2.1 0 = .ok (.aload_n 1, 1) := by decide +kernel
theorem jd_Merger_isNew_1 : decode mi_Merger_isNew.2.1 1 = .ok (.iload_n 3, 1) := by decide +kernel
theorem jd_Merger_isNew_2 : decode mi_Merger_isNew.2.1 2 = .ok (.invokevirtual 61, 3) := by decide +kernel
theorem jd_Merger_isNew_5 : decode mi_Merger_isNew.2.1 5 = .ok (.ifCond .eq 24, 3) := by decide +kernel
theorem jd_Merger_isNew_8 : decode mi_Merger_isNew.2.1 8 = .ok (.aload_n 0, 1) := by decide +kernel
theorem jd_Merger_isNew_9 : decode mi_Merger_isNew.2.1 9 = .ok (.iload_n 3, 1) := by decide +kernel
theorem jd_Merger_isNew_10 : decode mi_Merger_isNew.2.1 10 = .ok (.invokevirtual 61, 3) := by decide +kernel
theorem jd_Merger_isNew_13 : decode mi_Merger_isNew.2.1 13 = .ok (.ifCond .ne 16, 3) := by decide +kernel
theorem jd_Merger_isNew_16 : decode mi_Merger_isNew.2.1 16 = .ok (.aload_n 2, 1) := by decide +kernel
theorem jd_Merger_isNew_17 : decode mi_Merger_isNew.2.1 17 = .ok (.iload_n 3, 1) := by decide +kernel
theorem jd_Merger_isNew_18 : decode mi_Merger_isNew.2.1 18 = .ok (.invokevirtual 85, 3) := by decide +kernel
theorem jd_Merger_isNew_21 : decode mi_Merger_isNew.2.1 21 = .ok (.iconst (-1), 1) := by decide +kernel
theorem jd_Merger_isNew_22 : decode mi_Merger_isNew.2.1 22 = .ok (.if_icmp .ne 7, 3) := by decide +kernel
theorem jd_Merger_isNew_25 : decode mi_Merger_isNew.2.1 25 = .ok (.iconst 1, 1) := by decide +kernel
theorem jd_Merger_isNew_26 : decode mi_Merger_isNew.2.1 26 = .ok (.goto 4, 3) := by decide +kernel
theorem jd_Merger_isNew_29 : decode mi_Merger_isNew.2.1 29 = .ok (.iconst 0, 1) := by decide +kernel
theorem jd_Merger_isNew_30 : decode mi_Merger_isNew.2.1 30 = .ok (.ireturn, 1) := by decide +kernel
theorem jd_Merger_mergeTrees_0 : decode mi_Merger_mergeTrees.2.1 0 = .ok (.aload_n 0, 1) := by decide +kernel
theorem jd_Merger_mergeTrees_1 : decode mi_Merger_mergeTrees.2.1 1 = .ok (.getfield 12, 3) := by decide +kernel
theorem jd_Merger_mergeTrees_4 : decode mi_Merger_mergeTrees.2.1 4 = .ok (.invokevirtual 53, 3) := by decide +kernel
theorem jd_Merger_mergeTrees_7 : decode mi_Merger_mergeTrees.2.1 7 = .ok (.aload_n 0, 1) := by decide +kernel
theorem jd_Merger_mergeTrees_8 : decode mi_Merger_mergeTrees.2.1 8 = .ok (.getfield 21, 3) := by decide +kernel
theorem jd_Merger_mergeTrees_11 : decode mi_Merger_mergeTrees.2.1 11 = .ok (.invokevirtual 56, 3) := by decide +kernel
theorem jd_Merger_mergeTrees_14 : decode mi_Merger_mergeTrees.2.1 14 = .ok (.aload_n 0, 1) := by decide +kernel
theorem jd_Merger_mergeTrees_15 : decode mi_Merger_mergeTrees.2.1 15 = .ok (.getfield 28, 3) := by decide +kernel
theorem jd_Merger_mergeTrees_18 : decode mi_Merger_mergeTrees.2.1 18 = .ok (.aload_n 1, 1) := by decide +kernel
theorem jd_Merger_mergeTrees_19 : decode mi_Merger_mergeTrees.2.1 19 = .ok (.aload_n 2, 1) := by decide +kernel
theorem jd_Merger_mergeTrees_20 : decode mi_Merger_mergeTrees.2.1 20 = .ok (.invokevirtual 57, 3) := by decide +kernel
theorem jd_Merger_mergeTrees_23 : decode mi_Merger_mergeTrees.2.1 23 = .ok (.aload_n 0, 1) := by decide +kernel
theorem jd_Merger_mergeTrees_24 : decode mi_Merger_mergeTrees.2.1 24 = .ok (.getfield 32, 3) := by decide +kernel
theorem jd_Merger_mergeTrees_27 : decode mi_Merger_mergeTrees.2.1 27 = .ok (.aload_n 1, 1) := by decide +kernel
theorem jd_Merger_mergeTrees_28 : decode mi_Merger_mergeTrees.2.1 28 = .ok (.aload_n 3, 1) := by decide +kernel
theorem jd_Merger_mergeTrees_29 : decode mi_Merger_mergeTrees.2.1 29 = .ok (.invokevirtual 57, 3) := by decide +kernel
theorem jd_Merger_mergeTrees_32 : decode mi_Merger_mergeTrees.2.1 32 = .ok (.iconst 0, 1) := by decide +kernel
theorem jd_Merger_mergeTrees_33 : decode mi_Merger_mergeTrees.2.1 33 = .ok (.istore 4, 2) := by decide +kernel
theorem jd_Merger_mergeTrees_35 : decode mi_Merger_mergeTrees.2.1 35 = .ok (.iload 4, 2) := by decide +kernel
theorem jd_Merger_mergeTrees_37 : decode mi_Merger_mergeTrees.2.1 37 = .ok (.bipush 12, 2) := by decide +kernel
theorem jd_Merger_mergeTrees_39 : decode mi_Merger_mergeTrees.2.1 39 = .ok (.if_icmp .ge 27, 3) := by decide +kernel
theorem jd_Merger_mergeTrees_42 : decode mi_Merger_mergeTrees.2.1 42 = .ok (.aload_n 1, 1) := by decide +kernel
theorem jd_Merger_mergeTrees_43 : decode mi_Merger_mergeTrees.2.1 43 = .ok (.iload 4, 2) := by decide +kernel
theorem jd_Merger_mergeTrees_45 : decode mi_Merger_mergeTrees.2.1 45 = .ok (.invokevirtual 61, 3) := by decide +kernel
theorem jd_Merger_mergeTrees_48 : decode mi_Merger_mergeTrees.2.1 48 = .ok (.ifCond .eq 12, 3) := by decide +kernel
theorem jd_Merger_mergeTrees_51 : decode mi_Merger_mergeTrees.2.1 51 = .ok (.aload_n 0, 1) := by decide +kernel
theorem jd_Merger_mergeTrees_52 : decode mi_Merger_mergeTrees.2.1 52 = .ok (.aload_n 1, 1) := by decide +kernel
theorem jd_Merger_mergeTrees_53 : decode mi_Merger_mergeTrees.2.1 53 = .ok (.aload_n 2, 1) := by decide +kernel
theorem jd_Merger_mergeTrees_54 : decode mi_Merger_mergeTrees.2.1 54 = .ok (.aload_n 3, 1) := by decide +kernel
theorem jd_Merger_mergeTrees_55 : decode mi_Merger_mergeTrees.2.1 55 = .ok (.iload 4, 2) := by decide +kernel
theorem jd_Merger_mergeTrees_57 : decode mi_Merger_mergeTrees.2.1 57 = .ok (.invokevirtual 65, 3) := by decide +kernel
theorem jd_Merger_mergeTrees_60 : decode mi_Merger_mergeTrees.2.1 60 = .ok (.iinc 4 1, 3) := by decide +kernel
theorem jd_Merger_mergeTrees_63 : decode mi_Merger_mergeTrees.2.1 63 = .ok (.goto (-28), 3) := by decide +kernel
theorem jd_Merger_mergeTrees_66 : decode mi_Merger_mergeTrees.2.1 66 = .ok (.iconst 0, 1) := by decide +kernel
theorem jd_Merger_mergeTrees_67 : decode mi_Merger_mergeTrees.2.1 67 = .ok (.istore 4, 2) := by decide +kernel
theorem jd_Merger_mergeTrees_69 : decode mi_Merger_mergeTrees.2.1 69 = .ok (.iload 4, 2) := by decide +kernel
theorem jd_Merger_mergeTrees_71 : decode mi_Merger_mergeTrees.2.1 71 = .ok (.bipush 12, 2) := by decide +kernel
theorem jd_Merger_mergeTrees_73 : decode mi_Merger_mergeTrees.2.1 73 = .ok (.if_icmp .ge 50, 3) := by decide +kernel
theorem jd_Merger_mergeTrees_76 : decode mi_Merger_mergeTrees.2.1 76 = .ok (.aload_n 0, 1) := by decide +kernel
theorem jd_Merger_mergeTrees_77 : decode mi_Merger_mergeTrees.2.1 77 = .ok (.getfield 49, 3) := by decide +kernel
theorem jd_Merger_mergeTrees_80 : decode mi_Merger_mergeTrees.2.1 80 = .ok (.iload 4, 2) := by decide +kernel
theorem jd_Merger_mergeTrees_82 : decode mi_Merger_mergeTrees.2.1 82 = .ok (.aload_n 1, 1) := by decide +kernel
theorem jd_Merger_mergeTrees_83 : decode mi_Merger_mergeTrees.2.1 83 = .ok (.aload_n 2, 1) := by decide +kernel
theorem jd_Merger_mergeTrees_84 : decode mi_Merger_mergeTrees.2.1 84 = .ok (.aload_n 0, 1) := by decide +kernel
theorem jd_Merger_mergeTrees_85 : decode mi_Merger_mergeTrees.2.1 85 = .ok (.getfield 28, 3) := by decide +kernel
theorem jd_Merger_mergeTrees_88 : decode mi_Merger_mergeTrees.2.1 88 = .ok (.iload 4, 2) := by decide +kernel
theorem jd_Merger_mergeTrees_90 : decode mi_Merger_mergeTrees.2.1 90 = .ok (.invokestatic 69, 3) := by decide +kernel
theorem jd_Merger_mergeTrees_93 : decode mi_Merger_mergeTrees.2.1 93 = .ok (.ifCond .eq 22, 3) := by decide +kernel
theorem jd_Merger_mergeTrees_96 : decode mi_Merger_mergeTrees.2.1 96 = .ok (.aload_n 0, 1) := by decide +kernel
theorem jd_Merger_mergeTrees_97 : decode mi_Merger_mergeTrees.2.1 97 = .ok (.aload_n 2, 1) := by decide +kernel
theorem jd_Merger_mergeTrees_98 : decode mi_Merger_mergeTrees.2.1 98 = .ok (.iload 4, 2) := by decide +kernel
theorem jd_Merger_mergeTrees_100 : decode mi_Merger_mergeTrees.2.1 100 = .ok (.invokevirtual 73, 3) := by decide +kernel
theorem jd_Merger_mergeTrees_103 : decode mi_Merger_mergeTrees.2.1 103 = .ok (.iload 4, 2) := by decide +kernel
theorem jd_Merger_mergeTrees_105 : decode mi_Merger_mergeTrees.2.1 105 = .ok (.invokevirtual 77, 3) := by decide +kernel
theorem jd_Merger_mergeTrees_108 : decode mi_Merger_mergeTrees.2.1 108 = .ok (.ifCond .eq 7, 3) := by decide +kernel
theorem jd_Merger_mergeTrees_111 : decode mi_Merger_mergeTrees.2.1 111 = .ok (.iconst 1, 1) := by decide +kernel
theorem jd_Merger_mergeTrees_112 : decode mi_Merger_mergeTrees.2.1 112 = .ok (.goto 4, 3) := by decide +kernel
theorem jd_Merger_mergeTrees_115 : decode mi_Merger_mergeTrees.2.1 115 = .ok (.iconst 0, 1) := by decide +kernel
theorem jd_Merger_mergeTrees_116 : decode mi_Merger_mergeTrees.2.1 116 = .ok (.bastore, 1) := by decide +kernel
theorem jd_Merger_mergeTrees_117 : decode mi_Merger_mergeTrees.2.1 117 = .ok (.iinc 4 1, 3) := by decide +kernel
theorem jd_Merger_mergeTrees_120 : decode mi_Merger_mergeTrees.2.1 120 = .ok (.goto (-51), 3) := by decide +kernel
theorem jd_Merger_mergeTrees_123 : decode mi_Merger_mergeTrees.2.1 123 = .ok (.iconst 0, 1) := by decide +kernel
theorem jd_Merger_mergeTrees_124 : decode mi_Merger_mergeTrees.2.1 124 = .ok (.istore 4, 2) := by decide +kernel
theorem jd_Merger_mergeTrees_126 : decode mi_Merger_mergeTrees.2.1 126 = .ok (.iload 4, 2) := by decide +kernel
theorem jd_Merger_mergeTrees_128 : decode mi_Merger_mergeTrees.2.1 128 = .ok (.bipush 12, 2) := by decide +kernel
theorem jd_Merger_mergeTrees_130 : decode mi_Merger_mergeTrees.2.1 130 = .ok (.if_icmp .ge 67, 3) := by decide +kernel
theorem jd_Merger_mergeTrees_133 : decode mi_Merger_mergeTrees.2.1 133 = .ok (.aload_n 1, 1) := by decide +kernel
theorem jd_Merger_mergeTrees_134 : decode mi_Merger_mergeTrees.2.1 134 = .ok (.aload_n 3, 1) := by decide +kernel
theorem jd_Merger_mergeTrees_135 : decode mi_Merger_mergeTrees.2.1 135 = .ok (.aload_n 0, 1) := by decide +kernel
theorem jd_Merger_mergeTrees_136 : decode mi_Merger_mergeTrees.2.1 136 = .ok (.getfield 32, 3) := by decide +kernel
theorem jd_Merger_mergeTrees_139 : decode mi_Merger_mergeTrees.2.1 139 = .ok (.iload 4, 2) := by decide +kernel
theorem jd_Merger_mergeTrees_141 : decode mi_Merger_mergeTrees.2.1 141 = .ok (.invokestatic 69, 3) := by decide +kernel
theorem jd_Merger_mergeTrees_144 : decode mi_Merger_mergeTrees.2.1 144 = .ok (.ifCond .eq 47, 3) := by decide +kernel
theorem jd_Merger_mergeTrees_147 : decode mi_Merger_mergeTrees.2.1 147 = .ok (.aload_n 0, 1) := by decide +kernel
theorem jd_Merger_mergeTrees_148 : decode mi_Merger_mergeTrees.2.1 148 = .ok (.getfield 49, 3) := by decide +kernel
theorem jd_Merger_mergeTrees_151 : decode mi_Merger_mergeTrees.2.1 151 = .ok (.iload 4, 2) := by decide +kernel
theorem jd_Merger_mergeTrees_153 : decode mi_Merger_mergeTrees.2.1 153 = .ok (.baload, 1) := by decide +kernel
theorem jd_Merger_mergeTrees_154 : decode mi_Merger_mergeTrees.2.1 154 = .ok (.ifCond .eq 24, 3) := by decide +kernel
theorem jd_Merger_mergeTrees_157 : decode mi_Merger_mergeTrees.2.1 157 = .ok (.aload_n 0, 1) := by decide +kernel
theorem jd_Merger_mergeTrees_158 : decode mi_Merger_mergeTrees.2.1 158 = .ok (.aload_n 2, 1) := by decide +kernel
theorem jd_Merger_mergeTrees_159 : decode mi_Merger_mergeTrees.2.1 159 = .ok (.iload 4, 2) := by decide +kernel
theorem jd_Merger_mergeTrees_161 : decode mi_Merger_mergeTrees.2.1 161 = .ok (.invokevirtual 73, 3) := by decide +kernel
theorem jd_Merger_mergeTrees_164 : decode mi_Merger_mergeTrees.2.1 164 = .ok (.aload_n 3, 1) := by decide +kernel
theorem jd_Merger_mergeTrees_165 : decode mi_Merger_mergeTrees.2.1 165 = .ok (.iload 4, 2) := by decide +kernel
theorem jd_Merger_mergeTrees_167 : decode mi_Merger_mergeTrees.2.1 167 = .ok (.invokevirtual 73, 3) := by decide +kernel
theorem jd_Merger_mergeTrees_170 : decode mi_Merger_mergeTrees.2.1 170 = .ok (.iload 4, 2) := by decide +kernel
theorem jd_Merger_mergeTrees_172 : decode mi_Merger_mergeTrees.2.1 172 = .ok (.invokevirtual 81, 3) := by decide +kernel
theorem jd_Merger_mergeTrees_175 : decode mi_Merger_mergeTrees.2.1 175 = .ok (.goto 16, 3) := by decide +kernel
theorem jd_Merger_mergeTrees_178 : decode mi_Merger_mergeTrees.2.1 178 = .ok (.aload_n 0, 1) := by decide +kernel
theorem jd_Merger_mergeTrees_179 : decode mi_Merger_mergeTrees.2.1 179 = .ok (.aload_n 3, 1) := by decide +kernel
theorem jd_Merger_mergeTrees_180 : decode mi_Merger_mergeTrees.2.1 180 = .ok (.iload 4, 2) := by decide +kernel
theorem jd_Merger_mergeTrees_182 : decode mi_Merger_mergeTrees.2.1 182 = .ok (.invokevirtual 73, 3) := by decide +kernel
theorem jd_Merger_mergeTrees_185 : decode mi_Merger_mergeTrees.2.1 185 = .ok (.iload 4, 2) := by decide +kernel
theorem jd_Merger_mergeTrees_187 : decode mi_Merger_mergeTrees.2.1 187 = .ok (.invokevirtual 77, 3) := by decide +kernel
theorem jd_Merger_mergeTrees_190 : decode mi_Merger_mergeTrees.2.1 190 = .ok (.pop, 1) := by decide +kernel
theorem jd_Merger_mergeTrees_191 : decode mi_Merger_mergeTrees.2.1 191 = .ok (.iinc 4 1, 3) := by decide +kernel
theorem jd_Merger_mergeTrees_194 : decode mi_Merger_mergeTrees.2.1 194 = .ok (.goto (-68), 3) := by decide +kernel
theorem jd_Merger_mergeTrees_197 : decode mi_Merger_mergeTrees.2.1 197 = .ok (.return_, 1) := by decide +kernel
/-! the merging of three trees -/
abbrev zM : Type := zT × zK
def tU (A : zT) (p : Nat) (v : zV) : zT := fun q => if q = p then v else A q
def MC (o : jw_O) (σ : zS) (M : zM) : Prop := TC o σ (zb o + 906) M.1 ∧ KC o σ (zb o + 934) M.2
theorem MC.fr2 {o : jw_O} {σ σ' : zS} {a n b m : Nat} {M : zM} (h : MC o σ M) (f : zF2 σ σ' a n b m) (hd : zb o + 937 ≤ a ∨ a + n ≤ zb o + 906) (hd2 : zb o + 937 ≤ b ∨ b + m ≤ zb o + 906) : MC o σ' M := ⟨h.1.fr2 f (by omega) (by omega), h.2.fr2 f (by omega) (by omega)⟩
theorem TC.upd {o : jw_O} {σ s : zS} {t p : Nat} {A : zT} {v : zV} (h : TC o σ t A) (hv : VC o s (fA t p) v) (f : ∀ x, t ≤ x → x < t + 28 → (x < fA t p ∨ fA t p + 2 ≤ x) → s x = σ x) : TC o s t (tU A p v) := by
  refine ⟨h.1, fun q hq => ?_⟩
  unfold tU
  by_cases e : q = p
  · rw [if_pos e, e]; exact hv
  · rw [if_neg e]
    exact (h.2 q hq).cell (f _ (by unfold fA; omega) (by unfold fA; omega) (by unfold fA; omega)) (f _ (by unfold fA; omega) (by unfold fA; omega) (by unfold fA; omega))
noncomputable def mBring (v : zV) (p : Nat) (M : zM) : Int × zM := if (M.1 p).1 = 0 then (1, (tU M.1 p v, M.2)) else (0, (M.1, kTell M.2 5 p))
noncomputable def mLeft (A K : zT) (p ik : Nat) (M : zM) : zM := if ik = p ∧ eqV (K p) (A p) = 1 then M else if (mBring (K ik) ik M).1 = 0 then (mBring (K ik) ik M).2 else ((mBring (K ik) ik M).2.1, kTell (mBring (K ik) ik M).2.2 1 ik)
noncomputable def mJoin (w t : zV) (p : Nat) (M : zM) : zM := if eqV w t = 1 then M else (tU M.1 p (blF v0 w t).1, kTell M.2 4 p)
noncomputable def mBoth (A B C : zT) (p io it : Nat) (M : zM) (to : Nat) : zM := if (M.1 to).1 = 0 then (tU M.1 to (blF (A p) (B io) (C it)).1, if (blF (A p) (B io) (C it)).2.1 = 0 then (if ¬ it = to ∧ ¬ it = p then kTell M.2 2 to else M.2) else kTell (if ¬ it = to ∧ ¬ it = p then kTell M.2 2 to else M.2) 3 to) else (M.1, kTell M.2 5 to)
noncomputable def mFile (A B C : zT) (F G : Nat → Int) (p : Nat) (M : zM) : zM :=
  if F p = -1 then (if G p = -1 then M else mLeft A C p (G p).toNat M) else if G p = -1 then mLeft A B p (F p).toNat M else mBoth A B C p (F p).toNat (G p).toNat M (if F p = p then (G p).toNat else (F p).toNat)
def mNew (A B : zT) (S : Nat → Int) (p : Nat) : Int := if (B p).1 = 0 then 0 else if (A p).1 = 0 then (if S p = -1 then 1 else 0) else 0
noncomputable def mg1 (A B C : zT) : Nat → zM → zM := fun p M => if (A p).1 = 0 then M else mFile A B C (trF A B).1 (trF A C).1 p M
noncomputable def mg2 (A B : zT) : Nat → zM × (Nat → Int) → zM × (Nat → Int) := fun p u => if mNew A B (trF A B).2.1 p = 0 then (u.1, fun q => if q = p then 0 else u.2 q) else ((mBring (B p) p u.1).2, fun q => if q = p then (mBring (B p) p u.1).1 else u.2 q)
noncomputable def mg3 (A B C : zT) (N : Nat → Int) : Nat → zM → zM := fun p M => if mNew A C (trF A C).2.1 p = 0 then M else if N p = 0 then (mBring (C p) p M).2 else mJoin (B p) (C p) p M
noncomputable def mgA (A B C : zT) : zM := it (mg1 A B C) 12 0 (fun _ => v0, (0, fun _ => (0, 0)))
noncomputable def mgB (A B C : zT) : zM × (Nat → Int) := it (mg2 A B) 12 0 (mgA A B C, fun _ => 0)
noncomputable def mgF (A B C : zT) : zM := it (mg3 A B C (mgB A B C).2) 12 0 (mgB A B C).1
theorem mBring_01 (v : zV) (p : Nat) (M : zM) : (mBring v p M).1 = 0 ∨ (mBring v p M).1 = 1 := by
  unfold mBring
  split
  · exact Or.inr rfl
  · exact Or.inl rfl
section
variable {o : jw_O} {σ : zS} {M : zM}
theorem g_bring {c : Nat} {v : zV} (hM : MC o σ M) (hv : VC o σ c v) (hd : c + 2 ≤ zb o + 905 ∨ zb o + 966 ≤ c) (p : Nat) (hp : p < 12) : zSpec mi_Merger_bring 2 o [.ref (zb o + 905), .ref c, .int (iI p)] σ (fun w s => w = some (.int (iI (mBring v p M).1)) ∧ MC o s (mBring v p M).2 ∧ zF2 σ s (zb o + 906) 31 (zb o + 951) 15) := by
  obtain ⟨hT, hK⟩ := hM
  have i1 := isT_res (o := o)
  have i2 := isK_told (o := o)
  have i3 := i1.f hp
  have h01 := (hT.2 p hp).2.1.p
  refine z_spec (by decide +kernel) (Nat.le_of_ble_eq_true rfl) rfl (fun k hs hR hE => ?_)
  refine jw_aload_n (pc' := 1) jd_Merger_bring_0 rfl rfl rfl ?_
  refine jw_get (pc' := 4) (kf := 0) jc_Merger (by decide) jq_207 jd_Merger_bring_1 (mc_Merger _) rfl rfl ?_
  refine jw_iload_n (pc' := 5) jd_Merger_bring_4 rfl rfl rfl ?_
  refine zx_callV0 (pc' := 8) hR (t_has hT p hp) jm_Tree_has jq_569 jc_Tree jd_Merger_bring_5 (mc_Tree _ (by assumption)) rfl rfl (Nat.le_of_ble_eq_true rfl) (by omega) (by decide) rfl rfl ?_
  refine zx_if_eq (tgt := 22) (pc' := 11) (by first | exact rg_iv _ _ _ | omega) jd_Merger_bring_8 (by decide) rfl (fun q => ?_) (fun q => ?_)
  · refine jw_aload_n (pc' := 23) jd_Merger_bring_22 rfl rfl rfl ?_
    refine jw_get (pc' := 26) (kf := 0) jc_Merger (by decide) jq_207 jd_Merger_bring_23 (mc_Merger _) rfl rfl ?_
    refine jw_iload_n (pc' := 27) jd_Merger_bring_26 rfl rfl rfl ?_
    refine zx_callV0 (pc' := 30) hR (t_fileAt i1 p hp) jm_Tree_fileAt jq_582 jc_Tree jd_Merger_bring_27 (mc_Tree _ (by assumption)) rfl rfl (Nat.le_of_ble_eq_true rfl) (by omega) (by decide) rfl rfl ?_
    refine jw_aload_n (pc' := 31) jd_Merger_bring_30 rfl rfl rfl ?_
    refine zx_callV (pc' := 34) hR (c_copyFrom i3 hv (by unfold fA; omega)) jm_Content_copyFrom jq_592 jc_Content jd_Merger_bring_31 (mc_Content _ (by assumption)) rfl rfl (Nat.le_of_ble_eq_true rfl) (by omega) (by decide) rfl (fun v9 s1 q9 => ?_)
    obtain ⟨rfl, g1, f1⟩ := q9
    refine zx_iconst (pc' := 35) (n := 1) jd_Merger_bring_34 rfl ?_
    refine zx_zret (by first | exact Or.inl rfl | exact Or.inr rfl | assumption | omega) hE jd_Merger_bring_35 rfl ?_
    have e : mBring v p M = (1, (tU M.1 p v, M.2)) := by unfold mBring; rw [if_pos q]
    rw [e]
    exact ⟨rfl, ⟨hT.upd g1 (fun x h1 h2 h3 => f1 x h3), hK.fr f1 (by unfold fA; omega)⟩, (f1.mono (by unfold fA; omega) (by unfold fA; omega) : zF σ s1 (zb o + 906) 31).l⟩
  · refine jw_aload_n (pc' := 12) jd_Merger_bring_11 rfl rfl rfl ?_
    refine jw_get (pc' := 15) (kf := 1) jc_Merger (by decide) jq_208 jd_Merger_bring_12 (mc_Merger _) rfl rfl ?_
    refine zx_iconst (pc' := 16) (n := 5) jd_Merger_bring_15 rfl ?_
    refine jw_iload_n (pc' := 17) jd_Merger_bring_16 rfl rfl rfl ?_
    refine zx_callV (pc' := 20) hR (k_tell hK (by omega) (by omega)) jm_Conflicts_tell jq_588 jc_Conflicts jd_Merger_bring_17 (mc_Conflicts _ (by assumption)) rfl rfl (Nat.le_of_ble_eq_true rfl) (by omega) (by decide) rfl (fun v9 s1 q9 => ?_)
    obtain ⟨rfl, g1, f1⟩ := q9
    refine zx_iconst (pc' := 21) (n := 0) jd_Merger_bring_20 rfl ?_
    refine zx_zret (by first | exact Or.inl rfl | exact Or.inr rfl | assumption | omega) hE jd_Merger_bring_21 rfl ?_
    have e : mBring v p M = (0, (M.1, kTell M.2 5 p)) := by unfold mBring; rw [if_neg q]
    rw [e]
    exact ⟨rfl, ⟨hT.fr f1 (by omega), g1⟩, (f1.mono (by omega) (by omega) : zF σ s1 (zb o + 906) 31).l⟩
theorem g_left {t1 t2 : Nat} {A K : zT} (hM : MC o σ M) (hA : TC o σ t1 A) (hK : TC o σ t2 K) (d1 : t1 + 28 ≤ zb o + 905) (d2 : t2 + 28 ≤ zb o + 905) (p ik : Nat) (hp : p < 12) (hik : ik < 12) : zSpec mi_Merger_mergeLeftOut 3 o [.ref (zb o + 905), .ref t1, .ref t2, .int (iI p), .int (iI ik)] σ (fun w s => w = none ∧ MC o s (mLeft A K p ik M) ∧ zF2 σ s (zb o + 906) 31 (zb o + 951) 15) := by
  have hA1 := hA.1
  have hK1 := hK.1
  have c1 := hA1.f hp
  have c2 := hK1.f hp
  have i2 := isK_told (o := o)
  have e01 := eqV_01 (K p) (A p)
  have b01 := mBring_01 (K ik) ik M
  refine z_spec (by decide +kernel) (Nat.le_of_ble_eq_true rfl) rfl (fun k hs hR hE => ?_)
  have part : ¬ (ik = p ∧ eqV (K p) (A p) = 1) → jw_X mi_Merger_mergeLeftOut o k 0 0 29 [(0, .ref (zb o + 905)), (2, .ref t2), (4, .int (iI ik)), (5, .int (iI 0))] [] (mm o σ) hs := by
    intro hno
    refine jw_iload (pc' := 31) jd_Merger_mergeLeftOut_29 rfl rfl ?_
    refine zx_if_ne (tgt := 59) (pc' := 34) (by first | exact rg_iv _ _ _ | omega) jd_Merger_mergeLeftOut_31 (by decide) rfl (fun q => ?_) (fun q => ?_)
    · exfalso; omega
    refine jw_aload_n (pc' := 35) jd_Merger_mergeLeftOut_34 rfl rfl rfl ?_
    refine jw_aload_n (pc' := 36) jd_Merger_mergeLeftOut_35 rfl rfl rfl ?_
    refine jw_iload (pc' := 38) jd_Merger_mergeLeftOut_36 rfl rfl ?_
    refine zx_callV0 (pc' := 41) hR (t_fileAt hK1 ik hik) jm_Tree_fileAt jq_582 jc_Tree jd_Merger_mergeLeftOut_38 (mc_Tree _ (by assumption)) rfl rfl (Nat.le_of_ble_eq_true rfl) (by omega) (by decide) rfl rfl ?_
    refine jw_iload (pc' := 43) jd_Merger_mergeLeftOut_41 rfl rfl ?_
    refine zx_callV (pc' := 46) hR (g_bring hM (hK.2 ik hik) (by unfold fA; omega) ik hik) jm_Merger_bring jq_584 jc_Merger jd_Merger_mergeLeftOut_43 (mc_Merger _) rfl rfl (Nat.le_of_ble_eq_true rfl) (by omega) (by decide) rfl (fun v9 s1 q9 => ?_)
    obtain ⟨rfl, g1, f1⟩ := q9
    refine zx_if_eq (tgt := 59) (pc' := 49) (by first | exact rg_iv _ _ _ | omega) jd_Merger_mergeLeftOut_46 (by decide) rfl (fun q2 => ?_) (fun q2 => ?_)
    · refine zx_vret hE jd_Merger_mergeLeftOut_59 rfl ?_
      have e : mLeft A K p ik M = (mBring (K ik) ik M).2 := by unfold mLeft; rw [if_neg hno, if_pos q2]
      rw [e]; exact ⟨rfl, g1, f1⟩
    · refine jw_aload_n (pc' := 50) jd_Merger_mergeLeftOut_49 rfl rfl rfl ?_
      refine jw_get (pc' := 53) (kf := 1) jc_Merger (by decide) jq_208 jd_Merger_mergeLeftOut_50 (mc_Merger _) rfl rfl ?_
      refine zx_iconst (pc' := 54) (n := 1) jd_Merger_mergeLeftOut_53 rfl ?_
      refine jw_iload (pc' := 56) jd_Merger_mergeLeftOut_54 rfl rfl ?_
      refine zx_callV (pc' := 59) hR (k_tell g1.2 (by omega) (by omega)) jm_Conflicts_tell jq_588 jc_Conflicts jd_Merger_mergeLeftOut_56 (mc_Conflicts _ (by assumption)) rfl rfl (Nat.le_of_ble_eq_true rfl) (by omega) (by decide) rfl (fun v9 s2 q9 => ?_)
      obtain ⟨rfl, g2, f2⟩ := q9
      refine zx_vret hE jd_Merger_mergeLeftOut_59 rfl ?_
      have e : mLeft A K p ik M = ((mBring (K ik) ik M).2.1, kTell (mBring (K ik) ik M).2.2 1 ik) := by unfold mLeft; rw [if_neg hno, if_neg q2]
      rw [e]; exact ⟨rfl, ⟨g1.1.fr f2 (by omega), g2⟩, f1.tl f2 (by omega) (by omega)⟩
  refine jw_iload (pc' := 2) jd_Merger_mergeLeftOut_0 rfl rfl ?_
  refine jw_iload_n (pc' := 3) jd_Merger_mergeLeftOut_2 rfl rfl rfl ?_
  refine zx_icmp_ne (tgt := 26) (pc' := 6) (by first | exact rg_iv _ _ _ | omega) (by first | exact rg_iv _ _ _ | omega) jd_Merger_mergeLeftOut_3 (by decide) rfl (fun q => ?_) (fun q => ?_)
  · refine zx_iconst (pc' := 27) (n := 0) jd_Merger_mergeLeftOut_26 rfl ?_
    refine jw_istore (pc' := 29) (lc' := [(0, _), (2, _), (4, _), (5, _)]) jd_Merger_mergeLeftOut_27 (Nat.le_of_ble_eq_true rfl) ⟨rfl, rfl, rfl, rfl, trivial⟩ rfl ?_
    exact part (fun z => q (by omega))
  · refine jw_aload_n (pc' := 7) jd_Merger_mergeLeftOut_6 rfl rfl rfl ?_
    refine jw_iload_n (pc' := 8) jd_Merger_mergeLeftOut_7 rfl rfl rfl ?_
    refine zx_callV0 (pc' := 11) hR (t_fileAt hK1 p hp) jm_Tree_fileAt jq_582 jc_Tree jd_Merger_mergeLeftOut_8 (mc_Tree _ (by assumption)) rfl rfl (Nat.le_of_ble_eq_true rfl) (by omega) (by decide) rfl rfl ?_
    refine jw_aload_n (pc' := 12) jd_Merger_mergeLeftOut_11 rfl rfl rfl ?_
    refine jw_iload_n (pc' := 13) jd_Merger_mergeLeftOut_12 rfl rfl rfl ?_
    refine zx_callV0 (pc' := 16) hR (t_fileAt hA1 p hp) jm_Tree_fileAt jq_582 jc_Tree jd_Merger_mergeLeftOut_13 (mc_Tree _ (by assumption)) rfl rfl (Nat.le_of_ble_eq_true rfl) (by omega) (by decide) rfl rfl ?_
    refine zx_callV0 (pc' := 19) hR (c_sameAs (hK.2 p hp) (hA.2 p hp)) jm_Content_sameAs jq_583 jc_Content jd_Merger_mergeLeftOut_16 (mc_Content _ (by assumption)) rfl rfl (Nat.le_of_ble_eq_true rfl) (by omega) (by decide) rfl rfl ?_
    refine zx_if_eq (tgt := 26) (pc' := 22) (by first | exact rg_iv _ _ _ | omega) jd_Merger_mergeLeftOut_19 (by decide) rfl (fun q2 => ?_) (fun q2 => ?_)
    · refine zx_iconst (pc' := 27) (n := 0) jd_Merger_mergeLeftOut_26 rfl ?_
      refine jw_istore (pc' := 29) (lc' := [(0, _), (2, _), (4, _), (5, _)]) jd_Merger_mergeLeftOut_27 (Nat.le_of_ble_eq_true rfl) ⟨rfl, rfl, rfl, rfl, trivial⟩ rfl ?_
      exact part (fun z => by omega)
    · refine zx_iconst (pc' := 23) (n := 1) jd_Merger_mergeLeftOut_22 rfl ?_
      refine jw_goto (tgt := 27) jd_Merger_mergeLeftOut_23 (by decide) ?_
      refine jw_istore (pc' := 29) (lc' := [(0, _), (2, _), (4, _), (5, _)]) jd_Merger_mergeLeftOut_27 (Nat.le_of_ble_eq_true rfl) ⟨rfl, rfl, rfl, rfl, trivial⟩ rfl ?_
      refine jw_iload (pc' := 31) jd_Merger_mergeLeftOut_29 rfl rfl ?_
      refine zx_if_ne (tgt := 59) (pc' := 34) (by first | exact rg_iv _ _ _ | omega) jd_Merger_mergeLeftOut_31 (by decide) rfl (fun q3 => ?_) (fun q3 => ?_)
      rotate_left
      · exfalso; omega
      refine zx_vret hE jd_Merger_mergeLeftOut_59 rfl ?_
      have e : mLeft A K p ik M = M := by unfold mLeft; rw [if_pos (by omega)]
      rw [e]; exact ⟨rfl, hM, fun _ _ _ => rfl⟩
theorem g_join {c1 c2 : Nat} {w t : zV} (hM : MC o σ M) (hn : VC o σ (zb o + 966) v0) (hw : VC o σ c1 w) (ht : VC o σ c2 t) (d1 : c1 + 2 ≤ zb o + 905) (d2 : c2 + 2 ≤ zb o + 905) (p : Nat) (hp : p < 12) : zSpec mi_Merger_joinNew 4 o [.ref (zb o + 905), .ref c1, .ref c2, .int (iI p)] σ (fun r s => r = none ∧ MC o s (mJoin w t p M) ∧ zF2 σ s (zb o + 906) 31 (zb o + 951) 15) := by
  have i1 := isT_res (o := o)
  have i2 := isK_told (o := o)
  have i3 := i1.f hp
  have e01 := eqV_01 w t
  have hw1 := hw.1
  obtain ⟨hT, hK⟩ := hM
  refine z_spec (by decide +kernel) (Nat.le_of_ble_eq_true rfl) rfl (fun k hs hR hE => ?_)
  refine jw_aload_n (pc' := 1) jd_Merger_joinNew_0 rfl rfl rfl ?_
  refine jw_aload_n (pc' := 2) jd_Merger_joinNew_1 rfl rfl rfl ?_
  refine zx_callV0 (pc' := 5) hR (c_sameAs hw ht) jm_Content_sameAs jq_583 jc_Content jd_Merger_joinNew_2 (mc_Content _ (by assumption)) rfl rfl (Nat.le_of_ble_eq_true rfl) (by omega) (by decide) rfl rfl ?_
  refine zx_if_ne (tgt := 39) (pc' := 8) (by first | exact rg_iv _ _ _ | omega) jd_Merger_joinNew_5 (by decide) rfl (fun q => ?_) (fun q => ?_)
  · refine zx_vret hE jd_Merger_joinNew_39 rfl ?_
    have e : mJoin w t p M = M := by unfold mJoin; rw [if_pos (by omega)]
    rw [e]; exact ⟨rfl, ⟨hT, hK⟩, fun _ _ _ => rfl⟩
  · refine jw_aload_n (pc' := 9) jd_Merger_joinNew_8 rfl rfl rfl ?_
    refine jw_get (pc' := 12) (kf := 4) jc_Merger (by decide) jq_211 jd_Merger_joinNew_9 (mc_Merger _) rfl rfl ?_
    refine jw_aload_n (pc' := 13) jd_Merger_joinNew_12 rfl rfl rfl ?_
    refine jw_get (pc' := 16) (kf := 0) jc_Merger (by decide) jq_207 jd_Merger_joinNew_13 (mc_Merger _) rfl rfl ?_
    refine jw_iload_n (pc' := 17) jd_Merger_joinNew_16 rfl rfl rfl ?_
    refine zx_callV0 (pc' := 20) hR (t_fileAt i1 p hp) jm_Tree_fileAt jq_582 jc_Tree jd_Merger_joinNew_17 (mc_Tree _ (by assumption)) rfl rfl (Nat.le_of_ble_eq_true rfl) (by omega) (by decide) rfl rfl ?_
    refine jw_aload_n (pc' := 21) jd_Merger_joinNew_20 rfl rfl rfl ?_
    refine jw_get (pc' := 24) (kf := 5) jc_Merger (by decide) jq_212 jd_Merger_joinNew_21 (mc_Merger _) rfl rfl ?_
    refine jw_aload_n (pc' := 25) jd_Merger_joinNew_24 rfl rfl rfl ?_
    refine jw_aload_n (pc' := 26) jd_Merger_joinNew_25 rfl rfl rfl ?_
    refine zx_callV (pc' := 29) hR (b_into i3 hn hw ht (by unfold fA; omega) (by unfold fA; omega) (by unfold fA; omega) (by unfold fA; omega) (by omega) (by omega) (by omega)) jm_Blender_blendInto jq_593 jc_Blender jd_Merger_joinNew_26 (mc_Blender _) rfl rfl (Nat.le_of_ble_eq_true rfl) (by omega) (by decide) rfl (fun v9 s1 q9 => ?_)
    obtain ⟨rfl, g1, f1⟩ := q9
    have hK1 := hK.fr2 f1 (by omega) (by unfold fA; omega)
    refine jw_pop (pc' := 30) jd_Merger_joinNew_29 rfl rfl ?_
    refine jw_aload_n (pc' := 31) jd_Merger_joinNew_30 rfl rfl rfl ?_
    refine jw_get (pc' := 34) (kf := 1) jc_Merger (by decide) jq_208 jd_Merger_joinNew_31 (mc_Merger _) rfl rfl ?_
    refine zx_iconst (pc' := 35) (n := 4) jd_Merger_joinNew_34 rfl ?_
    refine jw_iload_n (pc' := 36) jd_Merger_joinNew_35 rfl rfl rfl ?_
    refine zx_callV (pc' := 39) hR (k_tell hK1 (by omega) (by omega)) jm_Conflicts_tell jq_588 jc_Conflicts jd_Merger_joinNew_36 (mc_Conflicts _ (by assumption)) rfl rfl (Nat.le_of_ble_eq_true rfl) (by omega) (by decide) rfl (fun v9 s2 q9 => ?_)
    obtain ⟨rfl, g2, f2⟩ := q9
    refine zx_vret hE jd_Merger_joinNew_39 rfl ?_
    have e : mJoin w t p M = (tU M.1 p (blF v0 w t).1, kTell M.2 4 p) := by unfold mJoin; rw [if_neg (by omega)]
    rw [e]
    refine ⟨rfl, ⟨hT.upd (g1.fr f2 (by unfold fA; omega)) (fun x h1 h2 h3 => ?_), g2⟩, fun x h1 h2 => ?_⟩
    · rw [f2 x (by omega)]; exact f1 x (by omega) h3
    · rw [f2 x (by omega)]; exact f1 x (by omega) (by unfold fA; omega)
theorem g_both {t1 t2 t3 : Nat} {A B C : zT} (hM : MC o σ M) (hA : TC o σ t1 A) (hB : TC o σ t2 B) (hC : TC o σ t3 C) (d1 : t1 + 28 ≤ zb o + 905) (d2 : t2 + 28 ≤ zb o + 905) (d3 : t3 + 28 ≤ zb o + 905) (p io iq to : Nat) (hp : p < 12) (hio : io < 12) (hit : iq < 12) (hto : to < 12) {k : jw_K} {hs : Nat} {Φ : Option Value → zS → Prop} (hR : jw_Rm k 4 0 0) (hE : jw_E o k 0 0 (zP o hs Φ)) (hΦ : ∀ s, MC o s (mBoth A B C p io iq M to) → zF2 σ s (zb o + 906) 31 (zb o + 951) 15 → Φ none s) : jw_X mi_Merger_mergeFile o k 0 0 85 [(0, .ref (zb o + 905)), (1, .ref t1), (2, .ref t2), (3, .ref t3), (4, .int (iI p)), (5, .int (iI io)), (6, .int (iI iq)), (7, .int (iI to))] [] (mm o σ) hs := by
  have i1 := isT_res (o := o)
  have i2 := isK_told (o := o)
  have i3 := i1.f hto
  have hA1 := hA.1
  have hB1 := hB.1
  have hC1 := hC.1
  have h01 := (hM.1.2 to hto).2.1.p
  have hQ := blF_Q (hA.2 p hp).2.1 (hB.2 io hio).2.1 (hC.2 iq hit).2.1
  have t01 := hQ.2.2.1
  have part : ∀ (l : zK) (s : zS), (M.1 to).1 = 0 → l = (if ¬ iq = to ∧ ¬ iq = p then kTell M.2 2 to else M.2) → KC o s (zb o + 934) l → zF σ s (zb o + 934) 3 → jw_X mi_Merger_mergeFile o k 0 0 132 [(0, .ref (zb o + 905)), (1, .ref t1), (2, .ref t2), (3, .ref t3), (4, .int (iI p)), (5, .int (iI io)), (6, .int (iI iq)), (7, .int (iI to))] [] (mm o s) hs := by
    intro l s h0 hl hK F
    have e : mBoth A B C p io iq M to = (tU M.1 to (blF (A p) (B io) (C iq)).1, if (blF (A p) (B io) (C iq)).2.1 = 0 then l else kTell l 3 to) := by unfold mBoth; rw [if_pos h0, ← hl]
    have sA := hA.fr F (by omega)
    have sB := hB.fr F (by omega)
    have sC := hC.fr F (by omega)
    have sT := hM.1.fr F (by omega)
    refine jw_aload_n (pc' := 133) jd_Merger_mergeFile_132 rfl rfl rfl ?_
    refine jw_get (pc' := 136) (kf := 0) jc_Merger (by decide) jq_207 jd_Merger_mergeFile_133 (mc_Merger _) rfl rfl ?_
    refine jw_iload (pc' := 138) jd_Merger_mergeFile_136 rfl rfl ?_
    refine zx_callV0 (pc' := 141) hR (t_fileAt i1 to hto) jm_Tree_fileAt jq_582 jc_Tree jd_Merger_mergeFile_138 (mc_Tree _ (by assumption)) rfl rfl (Nat.le_of_ble_eq_true rfl) (by omega) (by decide) rfl rfl ?_
    refine jw_astore (pc' := 143) (lc' := [(0, _), (1, _), (2, _), (3, _), (4, _), (5, _), (6, _), (7, _), (8, _)]) jd_Merger_mergeFile_141 (Nat.le_of_ble_eq_true rfl) ⟨rfl, rfl, rfl, rfl, rfl, rfl, rfl, rfl, rfl, trivial⟩ rfl ?_
    refine jw_aload_n (pc' := 144) jd_Merger_mergeFile_143 rfl rfl rfl ?_
    refine jw_get (pc' := 147) (kf := 4) jc_Merger (by decide) jq_211 jd_Merger_mergeFile_144 (mc_Merger _) rfl rfl ?_
    refine jw_aload (pc' := 149) jd_Merger_mergeFile_147 rfl rfl ?_
    refine jw_aload_n (pc' := 150) jd_Merger_mergeFile_149 rfl rfl rfl ?_
    refine jw_iload (pc' := 152) jd_Merger_mergeFile_150 rfl rfl ?_
    refine zx_callV0 (pc' := 155) hR (t_fileAt hA1 p hp) jm_Tree_fileAt jq_582 jc_Tree jd_Merger_mergeFile_152 (mc_Tree _ (by assumption)) rfl rfl (Nat.le_of_ble_eq_true rfl) (by omega) (by decide) rfl rfl ?_
    refine jw_aload_n (pc' := 156) jd_Merger_mergeFile_155 rfl rfl rfl ?_
    refine jw_iload (pc' := 158) jd_Merger_mergeFile_156 rfl rfl ?_
    refine zx_callV0 (pc' := 161) hR (t_fileAt hB1 io hio) jm_Tree_fileAt jq_582 jc_Tree jd_Merger_mergeFile_158 (mc_Tree _ (by assumption)) rfl rfl (Nat.le_of_ble_eq_true rfl) (by omega) (by decide) rfl rfl ?_
    refine jw_aload_n (pc' := 162) jd_Merger_mergeFile_161 rfl rfl rfl ?_
    refine jw_iload (pc' := 164) jd_Merger_mergeFile_162 rfl rfl ?_
    refine zx_callV0 (pc' := 167) hR (t_fileAt hC1 iq hit) jm_Tree_fileAt jq_582 jc_Tree jd_Merger_mergeFile_164 (mc_Tree _ (by assumption)) rfl rfl (Nat.le_of_ble_eq_true rfl) (by omega) (by decide) rfl rfl ?_
    refine zx_callV (pc' := 170) hR (b_into i3 (sA.2 p hp) (sB.2 io hio) (sC.2 iq hit) (by unfold fA; omega) (by unfold fA; omega) (by unfold fA; omega) (by unfold fA; omega) (by unfold fA; omega) (by unfold fA; omega) (by unfold fA; omega)) jm_Blender_blendInto jq_593 jc_Blender jd_Merger_mergeFile_167 (mc_Blender _) rfl rfl (Nat.le_of_ble_eq_true rfl) (by omega) (by decide) rfl (fun v9 s1 q9 => ?_)
    obtain ⟨rfl, g1, f1⟩ := q9
    have hK1 := hK.fr2 f1 (by omega) (by unfold fA; omega)
    refine zx_if_eq (tgt := 183) (pc' := 173) (by first | exact rg_iv _ _ _ | omega) jd_Merger_mergeFile_170 (by decide) rfl (fun q => ?_) (fun q => ?_)
    · refine zx_vret hE jd_Merger_mergeFile_183 rfl ?_
      rw [if_pos q] at e
      refine hΦ _ ?_ (fun x h1 h2 => ?_)
      · rw [e]; exact ⟨sT.upd g1 (fun x h1 h2 h3 => f1 x (by omega) h3), hK1⟩
      · rw [f1 x (by omega) (by unfold fA; omega)]; exact F x (by omega)
    · refine jw_aload_n (pc' := 174) jd_Merger_mergeFile_173 rfl rfl rfl ?_
      refine jw_get (pc' := 177) (kf := 1) jc_Merger (by decide) jq_208 jd_Merger_mergeFile_174 (mc_Merger _) rfl rfl ?_
      refine zx_iconst (pc' := 178) (n := 3) jd_Merger_mergeFile_177 rfl ?_
      refine jw_iload (pc' := 180) jd_Merger_mergeFile_178 rfl rfl ?_
      refine zx_callV (pc' := 183) hR (k_tell hK1 (by omega) (by omega)) jm_Conflicts_tell jq_588 jc_Conflicts jd_Merger_mergeFile_180 (mc_Conflicts _ (by assumption)) rfl rfl (Nat.le_of_ble_eq_true rfl) (by omega) (by decide) rfl (fun v9 s2 q9 => ?_)
      obtain ⟨rfl, g2, f2⟩ := q9
      refine zx_vret hE jd_Merger_mergeFile_183 rfl ?_
      rw [if_neg q] at e
      refine hΦ _ ?_ (fun x h1 h2 => ?_)
      · rw [e]; exact ⟨sT.upd (g1.fr f2 (by unfold fA; omega)) (fun x h1 h2 h3 => by rw [f2 x (by omega)]; exact f1 x (by omega) h3), g2⟩
      · rw [f2 x (by omega), f1 x (by omega) (by unfold fA; omega)]; exact F x (by omega)
  refine jw_aload_n (pc' := 86) jd_Merger_mergeFile_85 rfl rfl rfl ?_
  refine jw_get (pc' := 89) (kf := 0) jc_Merger (by decide) jq_207 jd_Merger_mergeFile_86 (mc_Merger _) rfl rfl ?_
  refine jw_iload (pc' := 91) jd_Merger_mergeFile_89 rfl rfl ?_
  refine zx_callV0 (pc' := 94) hR (t_has hM.1 to hto) jm_Tree_has jq_569 jc_Tree jd_Merger_mergeFile_91 (mc_Tree _ (by assumption)) rfl rfl (Nat.le_of_ble_eq_true rfl) (by omega) (by decide) rfl rfl ?_
  refine zx_if_eq (tgt := 108) (pc' := 97) (by first | exact rg_iv _ _ _ | omega) jd_Merger_mergeFile_94 (by decide) rfl (fun q => ?_) (fun q => ?_)
  rotate_left
  · refine jw_aload_n (pc' := 98) jd_Merger_mergeFile_97 rfl rfl rfl ?_
    refine jw_get (pc' := 101) (kf := 1) jc_Merger (by decide) jq_208 jd_Merger_mergeFile_98 (mc_Merger _) rfl rfl ?_
    refine zx_iconst (pc' := 102) (n := 5) jd_Merger_mergeFile_101 rfl ?_
    refine jw_iload (pc' := 104) jd_Merger_mergeFile_102 rfl rfl ?_
    refine zx_callV (pc' := 107) hR (k_tell hM.2 (by omega) (by omega)) jm_Conflicts_tell jq_588 jc_Conflicts jd_Merger_mergeFile_104 (mc_Conflicts _ (by assumption)) rfl rfl (Nat.le_of_ble_eq_true rfl) (by omega) (by decide) rfl (fun v9 s1 q9 => ?_)
    obtain ⟨rfl, g1, f1⟩ := q9
    refine zx_vret hE jd_Merger_mergeFile_107 rfl ?_
    have e : mBoth A B C p io iq M to = (M.1, kTell M.2 5 to) := by unfold mBoth; rw [if_neg q]
    exact hΦ _ (by rw [e]; exact ⟨hM.1.fr f1 (by omega), g1⟩) (f1.mono (by omega) (by omega) : zF σ s1 (zb o + 906) 31).l
  refine jw_iload (pc' := 110) jd_Merger_mergeFile_108 rfl rfl ?_
  refine jw_iload (pc' := 112) jd_Merger_mergeFile_110 rfl rfl ?_
  refine zx_icmp_eq (tgt := 132) (pc' := 115) (by first | exact rg_iv _ _ _ | omega) (by first | exact rg_iv _ _ _ | omega) jd_Merger_mergeFile_112 (by decide) rfl (fun q2 => ?_) (fun q2 => ?_)
  · skip
    exact part _ σ q (by rw [if_neg (by omega)]) hM.2 zF.rf
  refine jw_iload (pc' := 117) jd_Merger_mergeFile_115 rfl rfl ?_
  refine jw_iload (pc' := 119) jd_Merger_mergeFile_117 rfl rfl ?_
  refine zx_icmp_eq (tgt := 132) (pc' := 122) (by first | exact rg_iv _ _ _ | omega) (by first | exact rg_iv _ _ _ | omega) jd_Merger_mergeFile_119 (by decide) rfl (fun q3 => ?_) (fun q3 => ?_)
  · skip
    exact part _ σ q (by rw [if_neg (by omega)]) hM.2 zF.rf
  · refine jw_aload_n (pc' := 123) jd_Merger_mergeFile_122 rfl rfl rfl ?_
    refine jw_get (pc' := 126) (kf := 1) jc_Merger (by decide) jq_208 jd_Merger_mergeFile_123 (mc_Merger _) rfl rfl ?_
    refine zx_iconst (pc' := 127) (n := 2) jd_Merger_mergeFile_126 rfl ?_
    refine jw_iload (pc' := 129) jd_Merger_mergeFile_127 rfl rfl ?_
    refine zx_callV (pc' := 132) hR (k_tell hM.2 (by omega) (by omega)) jm_Conflicts_tell jq_588 jc_Conflicts jd_Merger_mergeFile_129 (mc_Conflicts _ (by assumption)) rfl rfl (Nat.le_of_ble_eq_true rfl) (by omega) (by decide) rfl (fun v9 s1 q9 => ?_)
    obtain ⟨rfl, g1, f1⟩ := q9
    exact part _ s1 q (by rw [if_pos (by omega)]) g1 f1
theorem g_file {t1 t2 t3 : Nat} {A B C : zT} {u w : zN} (hM : MC o σ M) (hu : RC o σ (zb o + 937) u) (hw : RC o σ (zb o + 944) w) (hu2 : ∀ q, -1 ≤ u.1 q ∧ u.1 q ≤ 11) (hw2 : ∀ q, -1 ≤ w.1 q ∧ w.1 q ≤ 11) (hA : TC o σ t1 A) (hB : TC o σ t2 B) (hC : TC o σ t3 C) (d1 : t1 + 28 ≤ zb o + 905) (d2 : t2 + 28 ≤ zb o + 905) (d3 : t3 + 28 ≤ zb o + 905) (p : Nat) (hp : p < 12) : zSpec mi_Merger_mergeFile 4 o [.ref (zb o + 905), .ref t1, .ref t2, .ref t3, .int (iI p)] σ (fun r s => r = none ∧ MC o s (mFile A B C u.1 w.1 p M) ∧ zF2 σ s (zb o + 906) 31 (zb o + 951) 15) := by
  have i1 := isR_ours (o := o)
  have i2 := isR_theirs (o := o)
  have r1 := hu2 p
  have r2 := hw2 p
  refine z_spec (by decide +kernel) (Nat.le_of_ble_eq_true rfl) rfl (fun k hs hR hE => ?_)
  refine jw_aload_n (pc' := 1) jd_Merger_mergeFile_0 rfl rfl rfl ?_
  refine jw_get (pc' := 4) (kf := 2) jc_Merger (by decide) jq_209 jd_Merger_mergeFile_1 (mc_Merger _) rfl rfl ?_
  refine jw_iload (pc' := 6) jd_Merger_mergeFile_4 rfl rfl ?_
  refine zx_callV0 (pc' := 9) hR (r_fate hu p hp) jm_Renames_fateOf jq_574 jc_Renames jd_Merger_mergeFile_6 (mc_Renames _ (by assumption)) rfl rfl (Nat.le_of_ble_eq_true rfl) (by omega) (by decide) rfl rfl ?_
  refine jw_istore (pc' := 11) (lc' := [(0, _), (1, _), (2, _), (3, _), (4, _), (5, _)]) jd_Merger_mergeFile_9 (Nat.le_of_ble_eq_true rfl) ⟨rfl, rfl, rfl, rfl, rfl, rfl, trivial⟩ rfl ?_
  refine jw_aload_n (pc' := 12) jd_Merger_mergeFile_11 rfl rfl rfl ?_
  refine jw_get (pc' := 15) (kf := 3) jc_Merger (by decide) jq_210 jd_Merger_mergeFile_12 (mc_Merger _) rfl rfl ?_
  refine jw_iload (pc' := 17) jd_Merger_mergeFile_15 rfl rfl ?_
  refine zx_callV0 (pc' := 20) hR (r_fate hw p hp) jm_Renames_fateOf jq_574 jc_Renames jd_Merger_mergeFile_17 (mc_Renames _ (by assumption)) rfl rfl (Nat.le_of_ble_eq_true rfl) (by omega) (by decide) rfl rfl ?_
  have rest35 : ¬ (u.1 p = -1 ∧ w.1 p = -1) → jw_X mi_Merger_mergeFile o k 0 0 35 [(0, .ref (zb o + 905)), (1, .ref t1), (2, .ref t2), (3, .ref t3), (4, .int (iI p)), (5, .int (iI (u.1 p))), (6, .int (iI (w.1 p)))] [] (mm o σ) hs := by
    intro hno
    refine jw_iload (pc' := 37) jd_Merger_mergeFile_35 rfl rfl ?_
    refine zx_iconst (pc' := 38) (n := -1) jd_Merger_mergeFile_37 rfl ?_
    refine zx_icmp_ne (tgt := 52) (pc' := 41) (by first | exact rg_iv _ _ _ | omega) (by first | exact rg_iv _ _ _ | omega) jd_Merger_mergeFile_38 (by decide) rfl (fun q => ?_) (fun q => ?_)
    rotate_left
    · obtain ⟨ik, hik⟩ : ∃ n : Nat, w.1 p = n := ⟨(w.1 p).toNat, by omega⟩
      have e : mFile A B C u.1 w.1 p M = mLeft A C p ik M := by unfold mFile; rw [if_pos q, if_neg (by omega), hik]; rfl
      rw [hik]
      refine jw_aload_n (pc' := 42) jd_Merger_mergeFile_41 rfl rfl rfl ?_
      refine jw_aload_n (pc' := 43) jd_Merger_mergeFile_42 rfl rfl rfl ?_
      refine jw_aload_n (pc' := 44) jd_Merger_mergeFile_43 rfl rfl rfl ?_
      refine jw_iload (pc' := 46) jd_Merger_mergeFile_44 rfl rfl ?_
      refine jw_iload (pc' := 48) jd_Merger_mergeFile_46 rfl rfl ?_
      refine zx_callV (pc' := 51) hR (g_left hM hA hC d1 d3 p ik hp (by omega)) jm_Merger_mergeLeftOut jq_578 jc_Merger jd_Merger_mergeFile_48 (mc_Merger _) rfl rfl (Nat.le_of_ble_eq_true rfl) (by omega) (by decide) rfl (fun v9 s1 q9 => ?_)
      obtain ⟨rfl, g1, f1⟩ := q9
      refine zx_vret hE jd_Merger_mergeFile_51 rfl ?_
      exact ⟨rfl, by rw [e]; exact g1, f1⟩
    obtain ⟨io, hio⟩ : ∃ n : Nat, u.1 p = n := ⟨(u.1 p).toNat, by omega⟩
    rw [hio]
    refine jw_iload (pc' := 54) jd_Merger_mergeFile_52 rfl rfl ?_
    refine zx_iconst (pc' := 55) (n := -1) jd_Merger_mergeFile_54 rfl ?_
    refine zx_icmp_ne (tgt := 69) (pc' := 58) (by first | exact rg_iv _ _ _ | omega) (by first | exact rg_iv _ _ _ | omega) jd_Merger_mergeFile_55 (by decide) rfl (fun q2 => ?_) (fun q2 => ?_)
    rotate_left
    · have e : mFile A B C u.1 w.1 p M = mLeft A B p io M := by unfold mFile; rw [if_neg q, if_pos q2, hio]; rfl
      refine jw_aload_n (pc' := 59) jd_Merger_mergeFile_58 rfl rfl rfl ?_
      refine jw_aload_n (pc' := 60) jd_Merger_mergeFile_59 rfl rfl rfl ?_
      refine jw_aload_n (pc' := 61) jd_Merger_mergeFile_60 rfl rfl rfl ?_
      refine jw_iload (pc' := 63) jd_Merger_mergeFile_61 rfl rfl ?_
      refine jw_iload (pc' := 65) jd_Merger_mergeFile_63 rfl rfl ?_
      refine zx_callV (pc' := 68) hR (g_left hM hA hB d1 d2 p io hp (by omega)) jm_Merger_mergeLeftOut jq_578 jc_Merger jd_Merger_mergeFile_65 (mc_Merger _) rfl rfl (Nat.le_of_ble_eq_true rfl) (by omega) (by decide) rfl (fun v9 s1 q9 => ?_)
      obtain ⟨rfl, g1, f1⟩ := q9
      refine zx_vret hE jd_Merger_mergeFile_68 rfl ?_
      exact ⟨rfl, by rw [e]; exact g1, f1⟩
    obtain ⟨iq, hiq⟩ : ∃ n : Nat, w.1 p = n := ⟨(w.1 p).toNat, by omega⟩
    rw [hiq]
    have e : mFile A B C u.1 w.1 p M = mBoth A B C p io iq M (if io = p then iq else io) := by
      unfold mFile; rw [if_neg q, if_neg q2, hio, hiq]
      by_cases z : io = p
      · rw [if_pos (by omega), if_pos z]; rfl
      · rw [if_neg (by omega), if_neg z]; rfl
    refine jw_iload (pc' := 71) jd_Merger_mergeFile_69 rfl rfl ?_
    refine jw_iload (pc' := 73) jd_Merger_mergeFile_71 rfl rfl ?_
    refine zx_icmp_ne (tgt := 81) (pc' := 76) (by first | exact rg_iv _ _ _ | omega) (by first | exact rg_iv _ _ _ | omega) jd_Merger_mergeFile_73 (by decide) rfl (fun q3 => ?_) (fun q3 => ?_)
    · refine jw_iload (pc' := 83) jd_Merger_mergeFile_81 rfl rfl ?_
      refine jw_istore (pc' := 85) (lc' := [(0, _), (1, _), (2, _), (3, _), (4, _), (5, _), (6, _), (7, _)]) jd_Merger_mergeFile_83 (Nat.le_of_ble_eq_true rfl) ⟨rfl, rfl, rfl, rfl, rfl, rfl, rfl, rfl, trivial⟩ rfl ?_
      exact g_both hM hA hB hC d1 d2 d3 p io iq io hp (by omega) (by omega) (by omega) hR hE (fun s h1 h2 => ⟨rfl, by rw [e, if_neg (by omega)]; exact h1, h2⟩)
    · refine jw_iload (pc' := 78) jd_Merger_mergeFile_76 rfl rfl ?_
      refine jw_goto (tgt := 83) jd_Merger_mergeFile_78 (by decide) ?_
      refine jw_istore (pc' := 85) (lc' := [(0, _), (1, _), (2, _), (3, _), (4, _), (5, _), (6, _), (7, _)]) jd_Merger_mergeFile_83 (Nat.le_of_ble_eq_true rfl) ⟨rfl, rfl, rfl, rfl, rfl, rfl, rfl, rfl, trivial⟩ rfl ?_
      exact g_both hM hA hB hC d1 d2 d3 p io iq iq hp (by omega) (by omega) (by omega) hR hE (fun s h1 h2 => ⟨rfl, by rw [e, if_pos (by omega)]; exact h1, h2⟩)
  refine jw_istore (pc' := 22) (lc' := [(0, _), (1, _), (2, _), (3, _), (4, _), (5, _), (6, _)]) jd_Merger_mergeFile_20 (Nat.le_of_ble_eq_true rfl) ⟨rfl, rfl, rfl, rfl, rfl, rfl, rfl, trivial⟩ rfl ?_
  refine jw_iload (pc' := 24) jd_Merger_mergeFile_22 rfl rfl ?_
  refine zx_iconst (pc' := 25) (n := -1) jd_Merger_mergeFile_24 rfl ?_
  refine zx_icmp_ne (tgt := 35) (pc' := 28) (by first | exact rg_iv _ _ _ | omega) (by first | exact rg_iv _ _ _ | omega) jd_Merger_mergeFile_25 (by decide) rfl (fun q => ?_) (fun q => ?_)
  · skip
    exact rest35 (by omega)
  refine jw_iload (pc' := 30) jd_Merger_mergeFile_28 rfl rfl ?_
  refine zx_iconst (pc' := 31) (n := -1) jd_Merger_mergeFile_30 rfl ?_
  refine zx_icmp_ne (tgt := 35) (pc' := 34) (by first | exact rg_iv _ _ _ | omega) (by first | exact rg_iv _ _ _ | omega) jd_Merger_mergeFile_31 (by decide) rfl (fun q2 => ?_) (fun q2 => ?_)
  · skip
    exact rest35 (by omega)
  · refine zx_vret hE jd_Merger_mergeFile_34 rfl ?_
    have e : mFile A B C u.1 w.1 p M = M := by unfold mFile; rw [if_pos q, if_pos q2]
    rw [e]; exact ⟨rfl, hM, fun _ _ _ => rfl⟩
theorem g_isNew {t1 t2 r : Nat} {A B : zT} {u : zN} (hA : TC o σ t1 A) (hB : TC o σ t2 B) (hu : RC o σ r u) (p : Nat) (hp : p < 12) (h2 : -1 ≤ u.2.1 p ∧ u.2.1 p ≤ 11) : zRo mi_Merger_isNew 2 o [.ref t1, .ref t2, .ref r, .int (iI p)] σ (some (.int (iI (mNew A B u.2.1 p)))) := by
  have hA1 := hA.1
  have hB1 := hB.1
  have hr := hu.1
  have o1 := (hA.2 p hp).2.1.p
  have o2 := (hB.2 p hp).2.1.p
  refine z_spec (by decide +kernel) (Nat.le_of_ble_eq_true rfl) rfl (fun k hs hR hE => ?_)
  refine jw_aload_n (pc' := 1) jd_Merger_isNew_0 rfl rfl rfl ?_
  refine jw_iload_n (pc' := 2) jd_Merger_isNew_1 rfl rfl rfl ?_
  refine zx_callV0 (pc' := 5) hR (t_has hB p hp) jm_Tree_has jq_569 jc_Tree jd_Merger_isNew_2 (mc_Tree _ (by assumption)) rfl rfl (Nat.le_of_ble_eq_true rfl) (by omega) (by decide) rfl rfl ?_
  refine zx_if_eq (tgt := 29) (pc' := 8) (by first | exact rg_iv _ _ _ | omega) jd_Merger_isNew_5 (by decide) rfl (fun q => ?_) (fun q => ?_)
  · refine zx_iconst (pc' := 30) (n := 0) jd_Merger_isNew_29 rfl ?_
    refine zx_zret (by first | exact Or.inl rfl | exact Or.inr rfl | assumption | omega) hE jd_Merger_isNew_30 rfl ?_
    exact ⟨by unfold mNew; rw [if_pos q], rfl⟩
  refine jw_aload_n (pc' := 9) jd_Merger_isNew_8 rfl rfl rfl ?_
  refine jw_iload_n (pc' := 10) jd_Merger_isNew_9 rfl rfl rfl ?_
  refine zx_callV0 (pc' := 13) hR (t_has hA p hp) jm_Tree_has jq_569 jc_Tree jd_Merger_isNew_10 (mc_Tree _ (by assumption)) rfl rfl (Nat.le_of_ble_eq_true rfl) (by omega) (by decide) rfl rfl ?_
  refine zx_if_ne (tgt := 29) (pc' := 16) (by first | exact rg_iv _ _ _ | omega) jd_Merger_isNew_13 (by decide) rfl (fun q2 => ?_) (fun q2 => ?_)
  · refine zx_iconst (pc' := 30) (n := 0) jd_Merger_isNew_29 rfl ?_
    refine zx_zret (by first | exact Or.inl rfl | exact Or.inr rfl | assumption | omega) hE jd_Merger_isNew_30 rfl ?_
    exact ⟨by unfold mNew; rw [if_neg q, if_neg q2], rfl⟩
  refine jw_aload_n (pc' := 17) jd_Merger_isNew_16 rfl rfl rfl ?_
  refine jw_iload_n (pc' := 18) jd_Merger_isNew_17 rfl rfl rfl ?_
  refine zx_callV0 (pc' := 21) hR (r_source hu p hp) jm_Renames_sourceOf jq_633 jc_Renames jd_Merger_isNew_18 (mc_Renames _ (by assumption)) rfl rfl (Nat.le_of_ble_eq_true rfl) (by omega) (by decide) rfl rfl ?_
  refine zx_iconst (pc' := 22) (n := -1) jd_Merger_isNew_21 rfl ?_
  refine zx_icmp_ne (tgt := 29) (pc' := 25) (by first | exact rg_iv _ _ _ | omega) (by first | exact rg_iv _ _ _ | omega) jd_Merger_isNew_22 (by decide) rfl (fun q3 => ?_) (fun q3 => ?_)
  · refine zx_iconst (pc' := 30) (n := 0) jd_Merger_isNew_29 rfl ?_
    refine zx_zret (by first | exact Or.inl rfl | exact Or.inr rfl | assumption | omega) hE jd_Merger_isNew_30 rfl ?_
    exact ⟨by unfold mNew; rw [if_neg q, if_pos q2, if_neg q3], rfl⟩
  · refine zx_iconst (pc' := 26) (n := 1) jd_Merger_isNew_25 rfl ?_
    refine jw_goto (tgt := 30) jd_Merger_isNew_26 (by decide) ?_
    refine zx_zret (by first | exact Or.inl rfl | exact Or.inr rfl | assumption | omega) hE jd_Merger_isNew_30 rfl ?_
    exact ⟨by unfold mNew; rw [if_neg q, if_pos q2, if_pos q3], rfl⟩
theorem mNew_01 (A B : zT) (S : Nat → Int) (p : Nat) : mNew A B S p = 0 ∨ mNew A B S p = 1 := by
  unfold mNew
  split
  · exact Or.inl rfl
  · split
    · split
      · exact Or.inr rfl
      · exact Or.inl rfl
    · exact Or.inl rfl
theorem g_merge {t1 t2 t3 : Nat} {A B C : zT} (hn : VC o σ (zb o + 966) v0) (hA : TC o σ t1 A) (hB : TC o σ t2 B) (hC : TC o σ t3 C) (d1 : t1 + 28 ≤ zb o + 905) (d2 : t2 + 28 ≤ zb o + 905) (d3 : t3 + 28 ≤ zb o + 905) : zSpec mi_Merger_mergeTrees 5 o [.ref (zb o + 905), .ref t1, .ref t2, .ref t3] σ (fun r s => r = none ∧ MC o s (mgF A B C) ∧ zF2 σ s (zb o + 906) 60 (zb o + 968) 1) := by
  have i1 := isR_ours (o := o)
  have i2 := isR_theirs (o := o)
  have i3 := isT_res (o := o)
  have i4 := isK_told (o := o)
  have hA1 := hA.1
  have hB1 := hB.1
  have hC1 := hC.1
  have okA : ∀ p, p < 12 → okV (A p) := fun p hp => (hA.2 p hp).2.1
  have okB : ∀ p, p < 12 → okV (B p) := fun p hp => (hB.2 p hp).2.1
  have okC : ∀ p, p < 12 → okV (C p) := fun p hp => (hC.2 p hp).2.1
  obtain ⟨pu1, pu2, -⟩ := trF_P okA okB
  obtain ⟨pw1, pw2, -⟩ := trF_P okA okC
  have big : ∀ {s s2 : zS}, zF2 σ s (zb o + 906) 60 (zb o + 968) 1 → zF2 s s2 (zb o + 906) 31 (zb o + 951) 15 → zF2 σ s2 (zb o + 906) 60 (zb o + 968) 1 := fun h f x h1 h2 => (f x (by omega) (by omega)).trans (h x h1 h2)
  refine z_spec (by decide +kernel) (Nat.le_of_ble_eq_true rfl) rfl (fun k hs hR hE => ?_)
  refine jw_aload_n (pc' := 1) jd_Merger_mergeTrees_0 rfl rfl rfl ?_
  refine jw_get (pc' := 4) (kf := 0) jc_Merger (by decide) jq_207 jd_Merger_mergeTrees_1 (mc_Merger _) rfl rfl ?_
  refine zx_callV (pc' := 7) hR (t_clear i3) jm_Tree_clear jq_535 jc_Tree jd_Merger_mergeTrees_4 (mc_Tree _ (by assumption)) rfl rfl (Nat.le_of_ble_eq_true rfl) (by omega) (by decide) rfl (fun v9 s1 q9 => ?_)
  obtain ⟨rfl, g1, f1⟩ := q9
  refine jw_aload_n (pc' := 8) jd_Merger_mergeTrees_7 rfl rfl rfl ?_
  refine jw_get (pc' := 11) (kf := 1) jc_Merger (by decide) jq_208 jd_Merger_mergeTrees_8 (mc_Merger _) rfl rfl ?_
  refine zx_callV (pc' := 14) hR (k_clear i4) jm_Conflicts_clear jq_540 jc_Conflicts jd_Merger_mergeTrees_11 (mc_Conflicts _ (by assumption)) rfl rfl (Nat.le_of_ble_eq_true rfl) (by omega) (by decide) rfl (fun v9 s2 q9 => ?_)
  obtain ⟨rfl, g2, f2⟩ := q9
  have F2 : zF2 σ s2 (zb o + 906) 60 (zb o + 968) 1 := ((f1.mono (by omega) (by omega) : zF σ s1 (zb o + 906) 60).l).tl f2 (by omega) (by omega)
  refine jw_aload_n (pc' := 15) jd_Merger_mergeTrees_14 rfl rfl rfl ?_
  refine jw_get (pc' := 18) (kf := 2) jc_Merger (by decide) jq_209 jd_Merger_mergeTrees_15 (mc_Merger _) rfl rfl ?_
  refine jw_aload_n (pc' := 19) jd_Merger_mergeTrees_18 rfl rfl rfl ?_
  refine jw_aload_n (pc' := 20) jd_Merger_mergeTrees_19 rfl rfl rfl ?_
  refine zx_callV (pc' := 23) hR (r_trace i1 (hA.fr2 F2 (by omega) (by omega)) (hB.fr2 F2 (by omega) (by omega)) (by omega) (by omega)) jm_Renames_trace jq_544 jc_Renames jd_Merger_mergeTrees_20 (mc_Renames _ (by assumption)) rfl rfl (Nat.le_of_ble_eq_true rfl) (by omega) (by decide) rfl (fun v9 s3 q9 => ?_)
  obtain ⟨rfl, g3, f3⟩ := q9
  have F3 := F2.tl f3 (by omega) (by omega)
  refine jw_aload_n (pc' := 24) jd_Merger_mergeTrees_23 rfl rfl rfl ?_
  refine jw_get (pc' := 27) (kf := 3) jc_Merger (by decide) jq_210 jd_Merger_mergeTrees_24 (mc_Merger _) rfl rfl ?_
  refine jw_aload_n (pc' := 28) jd_Merger_mergeTrees_27 rfl rfl rfl ?_
  refine jw_aload_n (pc' := 29) jd_Merger_mergeTrees_28 rfl rfl rfl ?_
  refine zx_callV (pc' := 32) hR (r_trace i2 (hA.fr2 F3 (by omega) (by omega)) (hC.fr2 F3 (by omega) (by omega)) (by omega) (by omega)) jm_Renames_trace jq_544 jc_Renames jd_Merger_mergeTrees_29 (mc_Renames _ (by assumption)) rfl rfl (Nat.le_of_ble_eq_true rfl) (by omega) (by decide) rfl (fun v9 s4 q9 => ?_)
  obtain ⟨rfl, g4, f4⟩ := q9
  have F4 := F3.tl f4 (by omega) (by omega)
  refine zx_iconst (pc' := 33) (n := 0) jd_Merger_mergeTrees_32 rfl ?_
  refine jw_istore (pc' := 35) (lc' := [(0, _), (1, _), (2, _), (3, _), (4, _)]) jd_Merger_mergeTrees_33 (Nat.le_of_ble_eq_true rfl) ⟨rfl, rfl, rfl, rfl, rfl, trivial⟩ rfl ?_
  have loop3 : ∀ (m i : Nat) (s : zS) (M : zM), i + m = 12 → MC o s M → RC o s (zb o + 944) (trF A C) → (∀ q, q < 12 → iv s (zb o + 968) q = (mgB A B C).2 q) → (∀ q, (mgB A B C).2 q = 0 ∨ (mgB A B C).2 q = 1) → zF2 σ s (zb o + 906) 60 (zb o + 968) 1 → it (mg3 A B C (mgB A B C).2) m i M = mgF A B C → jw_X mi_Merger_mergeTrees o k 0 0 126 [(0, .ref (zb o + 905)), (1, .ref t1), (2, .ref t2), (3, .ref t3), (4, .int (iI i))] [] (mm o s) hs := by
    intro m
    induction m with
    | zero =>
      intro i s M hi hM hr hN hN2 hF he
      refine jw_iload (pc' := 128) jd_Merger_mergeTrees_126 rfl rfl ?_
      refine zx_bipush (pc' := 130) (n := 12) jd_Merger_mergeTrees_128 (by decide +kernel) rfl ?_
      refine zx_icmp_ge (tgt := 197) (pc' := 133) (by first | exact rg_iv _ _ _ | omega) (by first | exact rg_iv _ _ _ | omega) jd_Merger_mergeTrees_130 (by decide) rfl (fun q => ?_) (fun q => ?_)
      rotate_left
      · exfalso; omega
      refine zx_vret hE jd_Merger_mergeTrees_197 rfl ?_
      have he : M = mgF A B C := he
      exact ⟨rfl, he ▸ hM, hF⟩
    | succ m ih =>
      intro i s M hi hM hr hN hN2 hF he
      have he : it (mg3 A B C (mgB A B C).2) m (i + 1) (mg3 A B C (mgB A B C).2 i M) = mgF A B C := he
      have sA := hA.fr2 hF (by omega) (by omega)
      have sB := hB.fr2 hF (by omega) (by omega)
      have sC := hC.fr2 hF (by omega) (by omega)
      have n01 := mNew_01 A C (trF A C).2.1 i
      have h2 := hN2 i
      have h3 := hN i (by omega)
      refine jw_iload (pc' := 128) jd_Merger_mergeTrees_126 rfl rfl ?_
      refine zx_bipush (pc' := 130) (n := 12) jd_Merger_mergeTrees_128 (by decide +kernel) rfl ?_
      refine zx_icmp_ge (tgt := 197) (pc' := 133) (by first | exact rg_iv _ _ _ | omega) (by first | exact rg_iv _ _ _ | omega) jd_Merger_mergeTrees_130 (by decide) rfl (fun q => ?_) (fun q => ?_)
      · exfalso; omega
      refine jw_aload_n (pc' := 134) jd_Merger_mergeTrees_133 rfl rfl rfl ?_
      refine jw_aload_n (pc' := 135) jd_Merger_mergeTrees_134 rfl rfl rfl ?_
      refine jw_aload_n (pc' := 136) jd_Merger_mergeTrees_135 rfl rfl rfl ?_
      refine jw_get (pc' := 139) (kf := 3) jc_Merger (by decide) jq_210 jd_Merger_mergeTrees_136 (mc_Merger _) rfl rfl ?_
      refine jw_iload (pc' := 141) jd_Merger_mergeTrees_139 rfl rfl ?_
      refine zx_callS0 (pc' := 144) hR (g_isNew sA sC hr i (by omega) (pw2 i)) jm_Merger_isNew jq_630 jd_Merger_mergeTrees_141 rfl rfl (Nat.le_of_ble_eq_true rfl) (by omega) (by decide) rfl rfl ?_
      refine zx_if_eq (tgt := 191) (pc' := 147) (by first | exact rg_iv _ _ _ | omega) jd_Merger_mergeTrees_144 (by decide) rfl (fun q2 => ?_) (fun q2 => ?_)
      · refine zx_iinc (pc' := 194) (lc' := [(0, _), (1, _), (2, _), (3, _), (4, _)]) jd_Merger_mergeTrees_191 rfl (Nat.le_of_ble_eq_true rfl) ⟨rfl, rfl, rfl, rfl, rfl, trivial⟩ rfl ?_
        refine jw_goto (tgt := 126) jd_Merger_mergeTrees_194 (by decide) ?_
        have e : mg3 A B C (mgB A B C).2 i M = M := by unfold mg3; rw [if_pos q2]
        rw [e] at he
        exact ih (i + 1) s M (by omega) hM hr hN hN2 hF he
      refine jw_aload_n (pc' := 148) jd_Merger_mergeTrees_147 rfl rfl rfl ?_
      refine jw_get (pc' := 151) (kf := 6) jc_Merger (by decide) jq_213 jd_Merger_mergeTrees_148 (mc_Merger _) rfl rfl ?_
      refine jw_iload (pc' := 153) jd_Merger_mergeTrees_151 rfl rfl ?_
      refine zx_zald (pc' := 154) jd_Merger_mergeTrees_153 (ml_Merger_newFromOurs _) rfl (by omega) (Nat.le_of_ble_eq_true rfl) rfl ?_
      refine zx_if_eq (tgt := 178) (pc' := 157) (by first | exact rg_iv _ _ _ | omega) jd_Merger_mergeTrees_154 (by decide) rfl (fun q3 => ?_) (fun q3 => ?_)
      · refine jw_aload_n (pc' := 179) jd_Merger_mergeTrees_178 rfl rfl rfl ?_
        refine jw_aload_n (pc' := 180) jd_Merger_mergeTrees_179 rfl rfl rfl ?_
        refine jw_iload (pc' := 182) jd_Merger_mergeTrees_180 rfl rfl ?_
        refine zx_callV0 (pc' := 185) hR (t_fileAt hC1 i (by omega)) jm_Tree_fileAt jq_582 jc_Tree jd_Merger_mergeTrees_182 (mc_Tree _ (by assumption)) rfl rfl (Nat.le_of_ble_eq_true rfl) (by omega) (by decide) rfl rfl ?_
        refine jw_iload (pc' := 187) jd_Merger_mergeTrees_185 rfl rfl ?_
        refine zx_callV (pc' := 190) hR (g_bring hM (sC.2 i (by omega)) (by unfold fA; omega) i (by omega)) jm_Merger_bring jq_584 jc_Merger jd_Merger_mergeTrees_187 (mc_Merger _) rfl rfl (Nat.le_of_ble_eq_true rfl) (by omega) (by decide) rfl (fun v9 s5 q9 => ?_)
        obtain ⟨rfl, g5, f5⟩ := q9
        refine jw_pop (pc' := 191) jd_Merger_mergeTrees_190 rfl rfl ?_
        refine zx_iinc (pc' := 194) (lc' := [(0, _), (1, _), (2, _), (3, _), (4, _)]) jd_Merger_mergeTrees_191 rfl (Nat.le_of_ble_eq_true rfl) ⟨rfl, rfl, rfl, rfl, rfl, trivial⟩ rfl ?_
        refine jw_goto (tgt := 126) jd_Merger_mergeTrees_194 (by decide) ?_
        have e : mg3 A B C (mgB A B C).2 i M = (mBring (C i) i M).2 := by unfold mg3; rw [if_neg q2, if_pos (by omega)]
        rw [e] at he
        exact ih (i + 1) s5 _ (by omega) g5 (by exact ⟨hr.1, fun q hq => (iv_cell (f5 _ (by omega) (by omega)) q).trans (hr.2.1 q hq), fun q hq => (iv_cell (f5 _ (by omega) (by omega)) q).trans (hr.2.2.1 q hq), (iv_cell (f5 _ (by omega) (by omega)) _).trans hr.2.2.2⟩) (fun q hq => (iv_cell (f5 _ (by omega) (by omega)) q).trans (hN q hq)) hN2 (big hF f5) he
      · refine jw_aload_n (pc' := 158) jd_Merger_mergeTrees_157 rfl rfl rfl ?_
        refine jw_aload_n (pc' := 159) jd_Merger_mergeTrees_158 rfl rfl rfl ?_
        refine jw_iload (pc' := 161) jd_Merger_mergeTrees_159 rfl rfl ?_
        refine zx_callV0 (pc' := 164) hR (t_fileAt hB1 i (by omega)) jm_Tree_fileAt jq_582 jc_Tree jd_Merger_mergeTrees_161 (mc_Tree _ (by assumption)) rfl rfl (Nat.le_of_ble_eq_true rfl) (by omega) (by decide) rfl rfl ?_
        refine jw_aload_n (pc' := 165) jd_Merger_mergeTrees_164 rfl rfl rfl ?_
        refine jw_iload (pc' := 167) jd_Merger_mergeTrees_165 rfl rfl ?_
        refine zx_callV0 (pc' := 170) hR (t_fileAt hC1 i (by omega)) jm_Tree_fileAt jq_582 jc_Tree jd_Merger_mergeTrees_167 (mc_Tree _ (by assumption)) rfl rfl (Nat.le_of_ble_eq_true rfl) (by omega) (by decide) rfl rfl ?_
        refine jw_iload (pc' := 172) jd_Merger_mergeTrees_170 rfl rfl ?_
        refine zx_callV (pc' := 175) hR (g_join hM (hn.fr2 hF (by omega) (by omega)) (sB.2 i (by omega)) (sC.2 i (by omega)) (by unfold fA; omega) (by unfold fA; omega) i (by omega)) jm_Merger_joinNew jq_637 jc_Merger jd_Merger_mergeTrees_172 (mc_Merger _) rfl rfl (Nat.le_of_ble_eq_true rfl) (by omega) (by decide) rfl (fun v9 s5 q9 => ?_)
        obtain ⟨rfl, g5, f5⟩ := q9
        refine jw_goto (tgt := 191) jd_Merger_mergeTrees_175 (by decide) ?_
        refine zx_iinc (pc' := 194) (lc' := [(0, _), (1, _), (2, _), (3, _), (4, _)]) jd_Merger_mergeTrees_191 rfl (Nat.le_of_ble_eq_true rfl) ⟨rfl, rfl, rfl, rfl, rfl, trivial⟩ rfl ?_
        refine jw_goto (tgt := 126) jd_Merger_mergeTrees_194 (by decide) ?_
        have e : mg3 A B C (mgB A B C).2 i M = mJoin (B i) (C i) i M := by unfold mg3; rw [if_neg q2, if_neg (by omega)]
        rw [e] at he
        exact ih (i + 1) s5 _ (by omega) g5 (by exact ⟨hr.1, fun q hq => (iv_cell (f5 _ (by omega) (by omega)) q).trans (hr.2.1 q hq), fun q hq => (iv_cell (f5 _ (by omega) (by omega)) q).trans (hr.2.2.1 q hq), (iv_cell (f5 _ (by omega) (by omega)) _).trans hr.2.2.2⟩) (fun q hq => (iv_cell (f5 _ (by omega) (by omega)) q).trans (hN q hq)) hN2 (big hF f5) he
  have loop2 : ∀ (m i : Nat) (s : zS) (u : zM × (Nat → Int)), i + m = 12 → MC o s u.1 → RC o s (zb o + 937) (trF A B) → RC o s (zb o + 944) (trF A C) → (∀ q, q < i → iv s (zb o + 968) q = u.2 q) → (∀ q, u.2 q = 0 ∨ u.2 q = 1) → zF2 σ s (zb o + 906) 60 (zb o + 968) 1 → it (mg2 A B) m i u = mgB A B C → jw_X mi_Merger_mergeTrees o k 0 0 69 [(0, .ref (zb o + 905)), (1, .ref t1), (2, .ref t2), (3, .ref t3), (4, .int (iI i))] [] (mm o s) hs := by
    intro m
    induction m with
    | zero =>
      intro i s u hi hM hr hr2 hN hN2 hF he
      have he : u = mgB A B C := he
      refine jw_iload (pc' := 71) jd_Merger_mergeTrees_69 rfl rfl ?_
      refine zx_bipush (pc' := 73) (n := 12) jd_Merger_mergeTrees_71 (by decide +kernel) rfl ?_
      refine zx_icmp_ge (tgt := 123) (pc' := 76) (by first | exact rg_iv _ _ _ | omega) (by first | exact rg_iv _ _ _ | omega) jd_Merger_mergeTrees_73 (by decide) rfl (fun q => ?_) (fun q => ?_)
      rotate_left
      · exfalso; omega
      refine zx_iconst (pc' := 124) (n := 0) jd_Merger_mergeTrees_123 rfl ?_
      refine jw_istore (pc' := 126) (lc' := [(0, _), (1, _), (2, _), (3, _), (4, _)]) jd_Merger_mergeTrees_124 (Nat.le_of_ble_eq_true rfl) ⟨rfl, rfl, rfl, rfl, rfl, trivial⟩ rfl ?_
      rw [he] at hM hN hN2
      exact loop3 12 0 s (mgB A B C).1 (by omega) hM hr2 (fun q hq => hN q (by omega)) hN2 hF rfl
    | succ m ih =>
      intro i s u hi hM hr hr2 hN hN2 hF he
      have he : it (mg2 A B) m (i + 1) (mg2 A B i u) = mgB A B C := he
      have sA := hA.fr2 hF (by omega) (by omega)
      have sB := hB.fr2 hF (by omega) (by omega)
      have n01 := mNew_01 A B (trF A B).2.1 i
      have b01 := mBring_01 (B i) i u.1
      have store : ∀ (s5 : zS) (x : Int) (M5 : zM), (x = 0 ∨ x = 1) → mg2 A B i u = (M5, fun q => if q = i then x else u.2 q) → MC o s5 M5 → zF2 s s5 (zb o + 906) 31 (zb o + 951) 15 → jw_X mi_Merger_mergeTrees o k 0 0 116 [(0, .ref (zb o + 905)), (1, .ref t1), (2, .ref t2), (3, .ref t3), (4, .int (iI i))] [.int (iI x), .int (iI i), .ref (zb o + 968)] (mm o s5) hs := by
        intro s5 x M5 hx e g5 f5
        rw [e] at he
        refine zx_zast (pc' := 117) (by first | exact Or.inl rfl | exact Or.inr rfl | assumption | omega) jd_Merger_mergeTrees_116 (ml_Merger_newFromOurs _) rfl (by omega) (Nat.le_of_ble_eq_true rfl) rfl ?_
        refine zx_iinc (pc' := 120) (lc' := [(0, _), (1, _), (2, _), (3, _), (4, _)]) jd_Merger_mergeTrees_117 rfl (Nat.le_of_ble_eq_true rfl) ⟨rfl, rfl, rfl, rfl, rfl, trivial⟩ rfl ?_
        refine jw_goto (tgt := 69) jd_Merger_mergeTrees_120 (by decide) ?_
        refine ih (i + 1) _ (M5, fun q => if q = i then x else u.2 q) (by omega) ⟨g5.1.fr (zF.rf.si (a := zb o + 968) (n := 1) (b := zb o + 968) (by omega)) (by omega), g5.2.fr (zF.rf.si (a := zb o + 968) (n := 1) (b := zb o + 968) (by omega)) (by omega)⟩ ?_ ?_ (fun q hq => ?_) (fun q => ?_) ((big hF f5).tr (zF.rf.si (a := zb o + 968) (n := 1) (b := zb o + 968) (by omega)) (by omega) (by omega)) he
        · exact ⟨hr.1, fun q hq => (iv_cell ((si_ne (by omega)).trans (f5 _ (by omega) (by omega))) q).trans (hr.2.1 q hq), fun q hq => (iv_cell ((si_ne (by omega)).trans (f5 _ (by omega) (by omega))) q).trans (hr.2.2.1 q hq), (iv_cell ((si_ne (by omega)).trans (f5 _ (by omega) (by omega))) _).trans hr.2.2.2⟩
        · exact ⟨hr2.1, fun q hq => (iv_cell ((si_ne (by omega)).trans (f5 _ (by omega) (by omega))) q).trans (hr2.2.1 q hq), fun q hq => (iv_cell ((si_ne (by omega)).trans (f5 _ (by omega) (by omega))) q).trans (hr2.2.2.1 q hq), (iv_cell ((si_ne (by omega)).trans (f5 _ (by omega) (by omega))) _).trans hr2.2.2.2⟩
        · rw [iv_si (by omega)]
          by_cases q9 : q = i
          · rw [if_pos ⟨rfl, q9⟩]; dsimp only; rw [if_pos q9]
          · rw [if_neg (fun z => q9 z.2)]; dsimp only; rw [if_neg q9, iv_cell (f5 _ (by omega) (by omega))]; exact hN q (by omega)
        · dsimp only
          split
          · exact hx
          · exact hN2 q
      refine jw_iload (pc' := 71) jd_Merger_mergeTrees_69 rfl rfl ?_
      refine zx_bipush (pc' := 73) (n := 12) jd_Merger_mergeTrees_71 (by decide +kernel) rfl ?_
      refine zx_icmp_ge (tgt := 123) (pc' := 76) (by first | exact rg_iv _ _ _ | omega) (by first | exact rg_iv _ _ _ | omega) jd_Merger_mergeTrees_73 (by decide) rfl (fun q => ?_) (fun q => ?_)
      · exfalso; omega
      refine jw_aload_n (pc' := 77) jd_Merger_mergeTrees_76 rfl rfl rfl ?_
      refine jw_get (pc' := 80) (kf := 6) jc_Merger (by decide) jq_213 jd_Merger_mergeTrees_77 (mc_Merger _) rfl rfl ?_
      refine jw_iload (pc' := 82) jd_Merger_mergeTrees_80 rfl rfl ?_
      refine jw_aload_n (pc' := 83) jd_Merger_mergeTrees_82 rfl rfl rfl ?_
      refine jw_aload_n (pc' := 84) jd_Merger_mergeTrees_83 rfl rfl rfl ?_
      refine jw_aload_n (pc' := 85) jd_Merger_mergeTrees_84 rfl rfl rfl ?_
      refine jw_get (pc' := 88) (kf := 2) jc_Merger (by decide) jq_209 jd_Merger_mergeTrees_85 (mc_Merger _) rfl rfl ?_
      refine jw_iload (pc' := 90) jd_Merger_mergeTrees_88 rfl rfl ?_
      refine zx_callS0 (pc' := 93) hR (g_isNew sA sB hr i (by omega) (pu2 i)) jm_Merger_isNew jq_630 jd_Merger_mergeTrees_90 rfl rfl (Nat.le_of_ble_eq_true rfl) (by omega) (by decide) rfl rfl ?_
      refine zx_if_eq (tgt := 115) (pc' := 96) (by first | exact rg_iv _ _ _ | omega) jd_Merger_mergeTrees_93 (by decide) rfl (fun q2 => ?_) (fun q2 => ?_)
      · refine zx_iconst (pc' := 116) (n := 0) jd_Merger_mergeTrees_115 rfl ?_
        exact store s 0 u.1 (Or.inl rfl) (by unfold mg2; rw [if_pos q2]) hM (fun _ _ _ => rfl)
      have e : mg2 A B i u = ((mBring (B i) i u.1).2, fun q => if q = i then (mBring (B i) i u.1).1 else u.2 q) := by unfold mg2; rw [if_neg q2]
      refine jw_aload_n (pc' := 97) jd_Merger_mergeTrees_96 rfl rfl rfl ?_
      refine jw_aload_n (pc' := 98) jd_Merger_mergeTrees_97 rfl rfl rfl ?_
      refine jw_iload (pc' := 100) jd_Merger_mergeTrees_98 rfl rfl ?_
      refine zx_callV0 (pc' := 103) hR (t_fileAt hB1 i (by omega)) jm_Tree_fileAt jq_582 jc_Tree jd_Merger_mergeTrees_100 (mc_Tree _ (by assumption)) rfl rfl (Nat.le_of_ble_eq_true rfl) (by omega) (by decide) rfl rfl ?_
      refine jw_iload (pc' := 105) jd_Merger_mergeTrees_103 rfl rfl ?_
      refine zx_callV (pc' := 108) hR (g_bring hM (sB.2 i (by omega)) (by unfold fA; omega) i (by omega)) jm_Merger_bring jq_584 jc_Merger jd_Merger_mergeTrees_105 (mc_Merger _) rfl rfl (Nat.le_of_ble_eq_true rfl) (by omega) (by decide) rfl (fun v9 s5 q9 => ?_)
      obtain ⟨rfl, g5, f5⟩ := q9
      refine zx_if_eq (tgt := 115) (pc' := 111) (by first | exact rg_iv _ _ _ | omega) jd_Merger_mergeTrees_108 (by decide) rfl (fun q3 => ?_) (fun q3 => ?_)
      · refine zx_iconst (pc' := 116) (n := 0) jd_Merger_mergeTrees_115 rfl ?_
        rw [q3] at e
        exact store s5 0 _ (Or.inl rfl) e g5 f5
      · refine zx_iconst (pc' := 112) (n := 1) jd_Merger_mergeTrees_111 rfl ?_
        refine jw_goto (tgt := 116) jd_Merger_mergeTrees_112 (by decide) ?_
        rw [show (mBring (B i) i u.1).1 = 1 by omega] at e
        exact store s5 1 _ (Or.inr rfl) e g5 f5
  have loop1 : ∀ (m i : Nat) (s : zS) (M : zM), i + m = 12 → MC o s M → RC o s (zb o + 937) (trF A B) → RC o s (zb o + 944) (trF A C) → zF2 σ s (zb o + 906) 60 (zb o + 968) 1 → it (mg1 A B C) m i M = mgA A B C → jw_X mi_Merger_mergeTrees o k 0 0 35 [(0, .ref (zb o + 905)), (1, .ref t1), (2, .ref t2), (3, .ref t3), (4, .int (iI i))] [] (mm o s) hs := by
    intro m
    induction m with
    | zero =>
      intro i s M hi hM hr hr2 hF he
      have he : M = mgA A B C := he
      refine jw_iload (pc' := 37) jd_Merger_mergeTrees_35 rfl rfl ?_
      refine zx_bipush (pc' := 39) (n := 12) jd_Merger_mergeTrees_37 (by decide +kernel) rfl ?_
      refine zx_icmp_ge (tgt := 66) (pc' := 42) (by first | exact rg_iv _ _ _ | omega) (by first | exact rg_iv _ _ _ | omega) jd_Merger_mergeTrees_39 (by decide) rfl (fun q => ?_) (fun q => ?_)
      rotate_left
      · exfalso; omega
      refine zx_iconst (pc' := 67) (n := 0) jd_Merger_mergeTrees_66 rfl ?_
      refine jw_istore (pc' := 69) (lc' := [(0, _), (1, _), (2, _), (3, _), (4, _)]) jd_Merger_mergeTrees_67 (Nat.le_of_ble_eq_true rfl) ⟨rfl, rfl, rfl, rfl, rfl, trivial⟩ rfl ?_
      rw [he] at hM
      exact loop2 12 0 s (mgA A B C, fun _ => 0) (by omega) hM hr hr2 (fun q hq => absurd hq (by omega)) (fun q => Or.inl rfl) hF rfl
    | succ m ih =>
      intro i s M hi hM hr hr2 hF he
      have he : it (mg1 A B C) m (i + 1) (mg1 A B C i M) = mgA A B C := he
      have sA := hA.fr2 hF (by omega) (by omega)
      have sB := hB.fr2 hF (by omega) (by omega)
      have sC := hC.fr2 hF (by omega) (by omega)
      have o1 := (okA i (by omega)).p
      refine jw_iload (pc' := 37) jd_Merger_mergeTrees_35 rfl rfl ?_
      refine zx_bipush (pc' := 39) (n := 12) jd_Merger_mergeTrees_37 (by decide +kernel) rfl ?_
      refine zx_icmp_ge (tgt := 66) (pc' := 42) (by first | exact rg_iv _ _ _ | omega) (by first | exact rg_iv _ _ _ | omega) jd_Merger_mergeTrees_39 (by decide) rfl (fun q => ?_) (fun q => ?_)
      · exfalso; omega
      refine jw_aload_n (pc' := 43) jd_Merger_mergeTrees_42 rfl rfl rfl ?_
      refine jw_iload (pc' := 45) jd_Merger_mergeTrees_43 rfl rfl ?_
      refine zx_callV0 (pc' := 48) hR (t_has sA i (by omega)) jm_Tree_has jq_569 jc_Tree jd_Merger_mergeTrees_45 (mc_Tree _ (by assumption)) rfl rfl (Nat.le_of_ble_eq_true rfl) (by omega) (by decide) rfl rfl ?_
      refine zx_if_eq (tgt := 60) (pc' := 51) (by first | exact rg_iv _ _ _ | omega) jd_Merger_mergeTrees_48 (by decide) rfl (fun q2 => ?_) (fun q2 => ?_)
      · refine zx_iinc (pc' := 63) (lc' := [(0, _), (1, _), (2, _), (3, _), (4, _)]) jd_Merger_mergeTrees_60 rfl (Nat.le_of_ble_eq_true rfl) ⟨rfl, rfl, rfl, rfl, rfl, trivial⟩ rfl ?_
        refine jw_goto (tgt := 35) jd_Merger_mergeTrees_63 (by decide) ?_
        have e : mg1 A B C i M = M := by unfold mg1; rw [if_pos q2]
        rw [e] at he
        exact ih (i + 1) s M (by omega) hM hr hr2 hF he
      · refine jw_aload_n (pc' := 52) jd_Merger_mergeTrees_51 rfl rfl rfl ?_
        refine jw_aload_n (pc' := 53) jd_Merger_mergeTrees_52 rfl rfl rfl ?_
        refine jw_aload_n (pc' := 54) jd_Merger_mergeTrees_53 rfl rfl rfl ?_
        refine jw_aload_n (pc' := 55) jd_Merger_mergeTrees_54 rfl rfl rfl ?_
        refine jw_iload (pc' := 57) jd_Merger_mergeTrees_55 rfl rfl ?_
        refine zx_callV (pc' := 60) hR (g_file hM hr hr2 pu1 pw1 sA sB sC d1 d2 d3 i (by omega)) jm_Merger_mergeFile jq_570 jc_Merger jd_Merger_mergeTrees_57 (mc_Merger _) rfl rfl (Nat.le_of_ble_eq_true rfl) (by omega) (by decide) rfl (fun v9 s5 q9 => ?_)
        obtain ⟨rfl, g5, f5⟩ := q9
        refine zx_iinc (pc' := 63) (lc' := [(0, _), (1, _), (2, _), (3, _), (4, _)]) jd_Merger_mergeTrees_60 rfl (Nat.le_of_ble_eq_true rfl) ⟨rfl, rfl, rfl, rfl, rfl, trivial⟩ rfl ?_
        refine jw_goto (tgt := 35) jd_Merger_mergeTrees_63 (by decide) ?_
        have e : mg1 A B C i M = mFile A B C (trF A B).1 (trF A C).1 i M := by unfold mg1; rw [if_neg q2]
        rw [e] at he
        refine ih (i + 1) s5 _ (by omega) g5 ?_ ?_ (big hF f5) he
        · exact ⟨hr.1, fun q hq => (iv_cell (f5 _ (by omega) (by omega)) q).trans (hr.2.1 q hq), fun q hq => (iv_cell (f5 _ (by omega) (by omega)) q).trans (hr.2.2.1 q hq), (iv_cell (f5 _ (by omega) (by omega)) _).trans hr.2.2.2⟩
        · exact ⟨hr2.1, fun q hq => (iv_cell (f5 _ (by omega) (by omega)) q).trans (hr2.2.1 q hq), fun q hq => (iv_cell (f5 _ (by omega) (by omega)) q).trans (hr2.2.2.1 q hq), (iv_cell (f5 _ (by omega) (by omega)) _).trans hr2.2.2.2⟩
  refine loop1 12 0 s4 (fun _ => v0, (0, fun _ => (0, 0))) (by omega) ⟨((g1.fr f2 (by omega)).fr f3 (by omega)).fr f4 (by omega), (g2.fr f3 (by omega)).fr f4 (by omega)⟩ (g3.fr f4 (by omega)) g4 F4 rfl
end
end
section
/-! sets of commits as bits -/
def bS (x : Int) : Nat := if 0 ≤ x ∧ x < 30 then 2 ^ x.toNat else 0
theorem z_bit0 (n j : Nat) : n &&& 2 ^ j = 0 ↔ n.testBit j = false := by
  constructor
  · intro h
    have h2 : (n &&& 2 ^ j).testBit j = false := by rw [h]; exact Nat.zero_testBit j
    rw [Nat.testBit_and, Nat.testBit_two_pow_self, Bool.and_true] at h2
    exact h2
  · intro h
    apply Nat.eq_of_testBit_eq
    intro i
    rw [Nat.testBit_and, Nat.zero_testBit, Nat.testBit_two_pow]
    by_cases e : j = i
    · rw [← e, h]; rfl
    · simp [e]
theorem bS_bit (x : Int) (j : Nat) : (bS x).testBit j = decide (x = j ∧ j < 30) := by
  unfold bS
  split
  · rw [Nat.testBit_two_pow]
    congr 1
    apply propext
    omega
  · rw [Nat.zero_testBit]
    symm
    rw [decide_eq_false_iff_not]
    omega
theorem bS_i {i : Nat} (h : i < 30) : bS (i : Int) = 2 ^ i := by unfold bS; rw [if_pos (by omega)]; rfl
theorem bS_in {i m : Nat} (h : i < 30) : bS (i : Int) &&& m = 0 ↔ m.testBit i = false := by rw [bS_i h, Nat.and_comm]; exact z_bit0 m i
/-- how many bits -/
def pcN (m : Nat) : Int := sm (fun j => if m.testBit j then 1 else 0) 30
theorem sm_le {f g : Nat → Int} : ∀ {n : Nat}, (∀ k, k < n → f k ≤ g k) → sm f n ≤ sm g n
  | 0, _ => Int.le_refl _
  | n + 1, h => by
    have h1 := sm_le (f := f) (g := g) (n := n) (fun k hk => h k (by omega))
    have h2 := h n (by omega)
    unfold sm
    omega
theorem sm_rng {f : Nat → Int} (hf : ∀ k, 0 ≤ f k ∧ f k ≤ 1) : ∀ n : Nat, 0 ≤ sm f n ∧ sm f n ≤ n
  | 0 => by unfold sm; omega
  | n + 1 => by
    have h1 := sm_rng hf n
    have h2 := hf n
    unfold sm
    omega
theorem sm_pos {f : Nat → Int} (hf : ∀ k, 0 ≤ f k ∧ f k ≤ 1) {j : Nat} (h1 : f j = 1) : ∀ {n : Nat}, j < n → 1 ≤ sm f n
  | 0, h => absurd h (by omega)
  | n + 1, h => by
    have g1 := sm_rng hf n
    have g2 := hf n
    unfold sm
    by_cases e : j = n
    · rw [← e, h1]; rw [e]; omega
    · have := sm_pos hf h1 (n := n) (by omega)
      omega
theorem sm_cut {f : Nat → Int} {m : Nat} (h0 : ∀ k, m ≤ k → f k = 0) : ∀ {n : Nat}, m ≤ n → sm f n = sm f m
  | 0, h => by rw [show m = 0 by omega]
  | n + 1, h => by
    by_cases e : m = n + 1
    · rw [e]
    · show sm f n + f n = sm f m
      rw [h0 n (by omega), sm_cut h0 (n := n) (by omega)]; omega
theorem pc_01 (m k : Nat) : 0 ≤ (if m.testBit k then (1 : Int) else 0) ∧ (if m.testBit k then (1 : Int) else 0) ≤ 1 := by split <;> omega
theorem pcN_rng (m : Nat) : 0 ≤ pcN m ∧ pcN m ≤ 30 := sm_rng (pc_01 m) 30
theorem pcN_le {m n : Nat} (h : ∀ j, j < 30 → m.testBit j = true → n.testBit j = true) : pcN m ≤ pcN n := sm_le fun k hk => by
  by_cases e : m.testBit k = true
  · rw [if_pos e, if_pos (h k hk e)]; omega
  · rw [if_neg e]; split <;> omega
theorem pcN_up {m c : Nat} (hc : c < 30) (h : ∀ j, m.testBit j = true → j ≤ c) (h1 : m.testBit c = true) : 1 ≤ pcN m ∧ pcN m ≤ c + 1 := by
  constructor
  · exact sm_pos (pc_01 m) (j := c) (by rw [if_pos h1]) hc
  · have e := sm_cut (f := fun j => if m.testBit j then (1 : Int) else 0) (m := c + 1) (fun k hk => by
      have : ¬ m.testBit k = true := fun z => by have := h k z; omega
      rw [if_neg this]) (n := 30) (by omega)
    have := (sm_rng (pc_01 m) (c + 1)).2
    unfold pcN
    rw [e]
    omega
/-- the ancestors of a set -/
def waF (f g : Nat → Int) : Nat → Nat → Nat
  | 0, m => m
  | i + 1, m => waF f g i (if m.testBit i then m ||| (bS (f i) ||| bS (g i)) else m)
def ancF (f g : Nat → Int) (c : Int) : Nat := waF f g 30 (bS c)
/-- parents come ahead -/
def PO (f g : Nat → Int) (n : Nat) : Prop := ∀ i, i < n → -1 ≤ f i ∧ f i < i ∧ -1 ≤ g i ∧ g i < i
theorem waF_spec {f g : Nat → Int} {n : Nat} (hP : PO f g n) : ∀ (i m : Nat), i ≤ 30 → (∀ j, m.testBit j = true → j < n) →
    (∀ j, m.testBit j = true → (waF f g i m).testBit j = true) ∧ (∀ j, i ≤ j → (waF f g i m).testBit j = m.testBit j) ∧ (∀ j, j < i → (waF f g i m).testBit j = true → ∀ q : Nat, (f j = q ∨ g j = q) → (waF f g i m).testBit q = true) ∧ ∀ j, (waF f g i m).testBit j = true → j < n
  | 0, m, _, h => ⟨fun _ h => h, fun _ _ => rfl, fun j hj => absurd hj (by omega), h⟩
  | i + 1, m, hi, h => by
    unfold waF
    by_cases e : m.testBit i = true
    · rw [if_pos e]
      have hin := h i e
      have hp := hP i hin
      have hb : ∀ j, (m ||| (bS (f i) ||| bS (g i))).testBit j = (m.testBit j || (decide (f i = j ∧ j < 30) || decide (g i = j ∧ j < 30))) := fun j => by
        rw [Nat.testBit_or, Nat.testBit_or, bS_bit, bS_bit]
      have hm1 : ∀ j, (m ||| (bS (f i) ||| bS (g i))).testBit j = true → j < n := fun j hj => by
        rw [hb] at hj
        simp only [Bool.or_eq_true, decide_eq_true_eq] at hj
        rcases hj with hj | hj | hj
        · exact h j hj
        · omega
        · omega
      obtain ⟨r1, r2, r3, r4⟩ := waF_spec hP i _ (by omega) hm1
      refine ⟨fun j hj => r1 j (by rw [hb, hj]; rfl), fun j hj => ?_, fun j hj hj2 q hq => ?_, r4⟩
      · rw [r2 j (by omega), hb]
        have e1 : decide (f i = j ∧ j < 30) = false := by rw [decide_eq_false_iff_not]; omega
        have e2 : decide (g i = j ∧ j < 30) = false := by rw [decide_eq_false_iff_not]; omega
        rw [e1, e2]; simp
      · by_cases e2 : j = i
        · apply r1
          rw [hb]
          simp only [Bool.or_eq_true, decide_eq_true_eq]
          rw [e2] at hq
          rcases hq with hq | hq
          · exact Or.inr (Or.inl ⟨hq, by omega⟩)
          · exact Or.inr (Or.inr ⟨hq, by omega⟩)
        · exact r3 j (by omega) hj2 q hq
    · rw [if_neg e]
      obtain ⟨r1, r2, r3, r4⟩ := waF_spec hP i m (by omega) h
      refine ⟨r1, fun j hj => r2 j (by omega), fun j hj hj2 q hq => ?_, r4⟩
      by_cases e2 : j = i
      · rw [e2, r2 i (by omega)] at hj2; exact absurd hj2 e
      · exact r3 j (by omega) hj2 q hq
theorem anc_self {f g : Nat → Int} {n c : Nat} (hP : PO f g n) (hc : c < n) (hn : n ≤ 30) : (ancF f g c).testBit c = true := (waF_spec hP 30 _ (by omega) (fun j hj => by rw [bS_bit, decide_eq_true_eq] at hj; omega)).1 c (by rw [bS_bit, decide_eq_true_eq]; omega)
theorem anc_le {f g : Nat → Int} {n c : Nat} (hP : PO f g n) (hc : c < n) (j : Nat) (hj : (ancF f g c).testBit j = true) : j ≤ c := by
  have hP2 : PO f g (c + 1) := fun i hi => hP i (by omega)
  have := (waF_spec hP2 30 (bS c) (by omega) (fun j hj => by rw [bS_bit, decide_eq_true_eq] at hj; omega)).2.2.2 j hj
  omega
theorem anc_par {f g : Nat → Int} {n c : Nat} (hP : PO f g n) (hc : c < n) (hn : n ≤ 30) (j : Nat) (hj : (ancF f g c).testBit j = true) (q : Nat) (hq : f j = q ∨ g j = q) : (ancF f g c).testBit q = true := (waF_spec hP 30 _ (by omega) (fun j hj => by rw [bS_bit, decide_eq_true_eq] at hj; omega)).2.2.1 j (by have := anc_le hP hc j hj; omega) hj q hq
theorem anc_none (f g : Nat → Int) : ancF f g (-1) = 0 := by
  unfold ancF
  have : ∀ i, waF f g i 0 = 0 := by
    intro i
    induction i with
    | zero => rfl
    | succ i ih => unfold waF; rw [if_neg (by simp)]; exact ih
  rw [show bS (-1) = 0 from rfl]
  exact this 30
/-- the greatest number in a set -/
def hiB (m : Nat) : Nat → Int
  | 0 => -1
  | i + 1 => if m.testBit i then (i : Int) else hiB m i
theorem hiB_spec (m : Nat) : ∀ n, (hiB m n = -1 ∧ ∀ j, j < n → m.testBit j = false) ∨ ∃ i, i < n ∧ hiB m n = i ∧ m.testBit i = true ∧ ∀ j, i < j → j < n → m.testBit j = false
  | 0 => Or.inl ⟨rfl, fun j hj => absurd hj (by omega)⟩
  | n + 1 => by
    unfold hiB
    by_cases e : m.testBit n = true
    · rw [if_pos e]
      exact Or.inr ⟨n, by omega, rfl, e, fun j h1 h2 => absurd h2 (by omega)⟩
    · rw [if_neg e]
      rcases hiB_spec m n with ⟨h1, h2⟩ | ⟨i, h1, h2, h3, h4⟩
      · refine Or.inl ⟨h1, fun j hj => ?_⟩
        by_cases q : j = n
        · rw [q]; exact Bool.eq_false_iff.mpr e
        · exact h2 j (by omega)
      · refine Or.inr ⟨i, by omega, h2, h3, fun j hj hj2 => ?_⟩
        by_cases q : j = n
        · rw [q]; exact Bool.eq_false_iff.mpr e
        · exact h4 j hj (by omega)
theorem hiB_eq {m n i : Nat} (h1 : i < n) (h3 : m.testBit i = true) (h4 : ∀ j, i < j → j < n → m.testBit j = false) : hiB m n = i := by
  rcases hiB_spec m n with ⟨-, g⟩ | ⟨j, g1, g2, g3, g4⟩
  · rw [g i h1] at h3; cases h3
  · by_cases q : i < j
    · rw [h4 j q g1] at g3; cases g3
    · by_cases q2 : j < i
      · rw [g4 i q2 h1] at h3; cases h3
      · rw [g2]; omega
def caF (f g : Nat → Int) (a b : Int) : Int := hiB (ancF f g a &&& ancF f g b) 30
theorem ca_comm (f g : Nat → Int) (a b : Int) : caF f g a b = caF f g b a := by unfold caF; rw [Nat.and_comm]
theorem ca_rng (f g : Nat → Int) (a b : Int) : -1 ≤ caF f g a b ∧ caF f g a b < 30 := by
  unfold caF
  rcases hiB_spec (ancF f g a &&& ancF f g b) 30 with ⟨h, -⟩ | ⟨i, h1, h2, -⟩ <;> omega
theorem ca_le {f g : Nat → Int} {n a b : Nat} (hP : PO f g n) (ha : a < n) (hb : b < n) : caF f g a b ≤ a ∧ caF f g a b ≤ b := by
  unfold caF
  rcases hiB_spec (ancF f g a &&& ancF f g b) 30 with ⟨h, -⟩ | ⟨i, h1, h2, h3, -⟩
  · omega
  · rw [Nat.testBit_and, Bool.and_eq_true] at h3
    have := anc_le hP ha i h3.1
    have := anc_le hP hb i h3.2
    omega
/-- the base of a commit and of one that it stands on is that one -/
theorem ca_anc {f g : Nat → Int} {n a b : Nat} (hP : PO f g n) (hn : n ≤ 30) (ha : a < n) (h : (ancF f g b).testBit a = true) : caF f g a b = a := by
  unfold caF
  refine hiB_eq (by omega) ?_ (fun j hj hj2 => ?_)
  · rw [Nat.testBit_and, anc_self hP ha hn, h]; rfl
  · rw [Nat.testBit_and]
    have : (ancF f g a).testBit j = false := Bool.eq_false_iff.mpr (fun z => by have := anc_le hP ha j z; omega)
    rw [this]; rfl
/-- the different trees of a set -/
def diF (t : Nat → Int) (m : Nat) : Nat → Nat
  | 0 => 0
  | i + 1 => if m.testBit i then diF t m i ||| bS (t i) else diF t m i
theorem diF_spec (t : Nat → Int) (m j : Nat) : ∀ n, (diF t m n).testBit j = true ↔ ∃ i, i < n ∧ m.testBit i = true ∧ t i = j ∧ j < 30
  | 0 => by unfold diF; simp
  | n + 1 => by
    unfold diF
    have ih := diF_spec t m j n
    by_cases e : m.testBit n = true
    · rw [if_pos e, Nat.testBit_or, Bool.or_eq_true, ih, bS_bit, decide_eq_true_eq]
      constructor
      · rintro (⟨i, h1, h2⟩ | h)
        · exact ⟨i, by omega, h2⟩
        · exact ⟨n, by omega, e, h⟩
      · rintro ⟨i, h1, h2, h3⟩
        by_cases q : i = n
        · rw [q] at h3; exact Or.inr h3
        · exact Or.inl ⟨i, by omega, h2, h3⟩
    · rw [if_neg e, ih]
      constructor
      · rintro ⟨i, h1, h2⟩
        exact ⟨i, by omega, h2⟩
      · rintro ⟨i, h1, h2, h3⟩
        by_cases q : i = n
        · rw [q] at h2; exact absurd h2 e
        · exact ⟨i, by omega, h2, h3⟩
/-- the different contents of a set -/
def metP (c : Nat → Int) (m j : Nat) : Prop := ∃ i, i < 30 ∧ m.testBit i = true ∧ ∃ p, p < 12 ∧ c (i * 12 + p) = j
noncomputable def metI (c : Nat → Int) (m j : Nat) : Int := @ite _ (metP c m j) (Classical.propDecidable _) 1 0
theorem metI_01 (c : Nat → Int) (m j : Nat) : 0 ≤ metI c m j ∧ metI c m j ≤ 1 := by unfold metI; split <;> omega
theorem metI_le {c : Nat → Int} {m n : Nat} (h : ∀ j, j < 30 → m.testBit j = true → n.testBit j = true) (j : Nat) : metI c m j ≤ metI c n j := by
  by_cases e : metP c m j
  · obtain ⟨i, h1, h2, h3⟩ := e
    have e2 : metP c n j := ⟨i, h1, h i h1 h2, h3⟩
    unfold metI
    rw [if_pos ⟨i, h1, h2, h3⟩, if_pos e2]; omega
  · have := (metI_01 c n j).1
    unfold metI at this ⊢
    rw [if_neg e]; exact this
noncomputable def obF (t c : Nat → Int) (m : Nat) : Int := pcN m + pcN (diF t m 30) + sm (metI c m) 360
theorem obF_le {t c : Nat → Int} {m n : Nat} (h : ∀ j, j < 30 → m.testBit j = true → n.testBit j = true) : obF t c m ≤ obF t c n := by
  have h1 := pcN_le h
  have h2 : pcN (diF t m 30) ≤ pcN (diF t n 30) := pcN_le fun j hj hd => by
    obtain ⟨i, g1, g2, g3⟩ := (diF_spec t m j 30).mp hd
    exact (diF_spec t n j 30).mpr ⟨i, g1, h i g1 g2, g3⟩
  have h3 : sm (metI c m) 360 ≤ sm (metI c n) 360 := sm_le fun k _ => metI_le h k
  unfold obF
  omega
theorem obF_rng (t c : Nat → Int) (m : Nat) : 0 ≤ obF t c m ∧ obF t c m ≤ 420 := by
  have h1 := pcN_rng m
  have h2 := pcN_rng (diF t m 30)
  have h3 := sm_rng (metI_01 c m) 360
  unfold obF
  omega
end
section
theorem jd_History_setOf_0 : decode mi_History_setOf.2.1 0 = .ok (.iload_n 0, 1) := by decide +kernel
theorem jd_History_setOf_1 : decode mi_History_setOf.2.1 1 = .ok (.ifCond .lt 15, 3) := by decide +kernel
theorem jd_History_setOf_4 : decode mi_History_setOf.2.1 4 = .ok (.iload_n 0, 1) := by decide +kernel
theorem jd_History_setOf_5 : decode mi_History_setOf.2.1 5 = .ok (.bipush 30, 2) := by decide +kernel
theorem jd_History_setOf_7 : decode mi_History_setOf.2.1 7 = .ok (.if_icmp .ge 9, 3) := by decide +kernel
theorem jd_History_setOf_10 : decode mi_History_setOf.2.1 10 = .ok (.iconst 1, 1) := by decide +kernel
theorem jd_History_setOf_11 : decode mi_History_setOf.2.1 11 = .ok (.iload_n 0, 1) := by decide +kernel
theorem jd_History_setOf_12 : decode mi_History_setOf.2.1 12 = .ok (.ishl, 1) := by decide +kernel
theorem jd_History_setOf_13 : decode mi_History_setOf.2.1 13 = .ok (.goto 4, 3) := by decide +kernel
theorem jd_History_setOf_16 : decode mi_History_setOf.2.1 16 = .ok (.iconst 0, 1) := by decide +kernel
theorem jd_History_setOf_17 : decode mi_History_setOf.2.1 17 = .ok (.ireturn, 1) := by decide +kernel
theorem jd_History_isIn_0 : decode mi_History_isIn.2.1 0 = .ok (.iload_n 0, 1) := by decide +kernel
theorem jd_History_isIn_1 : decode mi_History_isIn.2.1 1 = .ok (.invokestatic 48, 3) := by decide +kernel
theorem jd_History_isIn_4 : decode mi_History_isIn.2.1 4 = .ok (.iload_n 1, 1) := by decide +kernel
theorem jd_History_isIn_5 : decode mi_History_isIn.2.1 5 = .ok (.iand, 1) := by decide +kernel
theorem jd_History_isIn_6 : decode mi_History_isIn.2.1 6 = .ok (.ifCond .eq 7, 3) := by decide +kernel
theorem jd_History_isIn_9 : decode mi_History_isIn.2.1 9 = .ok (.iconst 1, 1) := by decide +kernel
theorem jd_History_isIn_10 : decode mi_History_isIn.2.1 10 = .ok (.goto 4, 3) := by decide +kernel
theorem jd_History_isIn_13 : decode mi_History_isIn.2.1 13 = .ok (.iconst 0, 1) := by decide +kernel
theorem jd_History_isIn_14 : decode mi_History_isIn.2.1 14 = .ok (.ireturn, 1) := by decide +kernel
theorem jd_History_kept_0 : decode mi_History_kept.2.1 0 = .ok (.aload_n 0, 1) := by decide +kernel
theorem jd_History_kept_1 : decode mi_History_kept.2.1 1 = .ok (.getfield 45, 3) := by decide +kernel
theorem jd_History_kept_4 : decode mi_History_kept.2.1 4 = .ok (.ireturn, 1) := by decide +kernel
theorem jd_History_isFull_0 : decode mi_History_isFull.2.1 0 = .ok (.aload_n 0, 1) := by decide +kernel
theorem jd_History_isFull_1 : decode mi_History_isFull.2.1 1 = .ok (.getfield 41, 3) := by decide +kernel
theorem jd_History_isFull_4 : decode mi_History_isFull.2.1 4 = .ok (.bipush 30, 2) := by decide +kernel
theorem jd_History_isFull_6 : decode mi_History_isFull.2.1 6 = .ok (.if_icmp .lt 7, 3) := by decide +kernel
theorem jd_History_isFull_9 : decode mi_History_isFull.2.1 9 = .ok (.iconst 1, 1) := by decide +kernel
theorem jd_History_isFull_10 : decode mi_History_isFull.2.1 10 = .ok (.goto 4, 3) := by decide +kernel
theorem jd_History_isFull_13 : decode mi_History_isFull.2.1 13 = .ok (.iconst 0, 1) := by decide +kernel
theorem jd_History_isFull_14 : decode mi_History_isFull.2.1 14 = .ok (.ireturn, 1) := by decide +kernel
theorem jd_History_holds_0 : decode mi_History_holds.2.1 0 = .ok (.iload_n 1, 1) := by decide +kernel
theorem jd_History_holds_1 : decode mi_History_holds.2.1 1 = .ok (.aload_n 0, 1) := by decide +kernel
theorem jd_History_holds_2 : decode mi_History_holds.2.1 2 = .ok (.getfield 45, 3) := by decide +kernel
theorem jd_History_holds_5 : decode mi_History_holds.2.1 5 = .ok (.invokestatic 52, 3) := by decide +kernel
theorem jd_History_holds_8 : decode mi_History_holds.2.1 8 = .ok (.ireturn, 1) := by decide +kernel
theorem jd_History_treeOf_0 : decode mi_History_treeOf.2.1 0 = .ok (.iload_n 1, 1) := by decide +kernel
theorem jd_History_treeOf_1 : decode mi_History_treeOf.2.1 1 = .ok (.ifCond .lt 18, 3) := by decide +kernel
theorem jd_History_treeOf_4 : decode mi_History_treeOf.2.1 4 = .ok (.iload_n 1, 1) := by decide +kernel
theorem jd_History_treeOf_5 : decode mi_History_treeOf.2.1 5 = .ok (.bipush 30, 2) := by decide +kernel
theorem jd_History_treeOf_7 : decode mi_History_treeOf.2.1 7 = .ok (.if_icmp .ge 12, 3) := by decide +kernel
theorem jd_History_treeOf_10 : decode mi_History_treeOf.2.1 10 = .ok (.aload_n 0, 1) := by decide +kernel
theorem jd_History_treeOf_11 : decode mi_History_treeOf.2.1 11 = .ok (.getfield 11, 3) := by decide +kernel
theorem jd_History_treeOf_14 : decode mi_History_treeOf.2.1 14 = .ok (.iload_n 1, 1) := by decide +kernel
theorem jd_History_treeOf_15 : decode mi_History_treeOf.2.1 15 = .ok (.aaload, 1) := by decide +kernel
theorem jd_History_treeOf_16 : decode mi_History_treeOf.2.1 16 = .ok (.goto 7, 3) := by decide +kernel
theorem jd_History_treeOf_19 : decode mi_History_treeOf.2.1 19 = .ok (.aload_n 0, 1) := by decide +kernel
theorem jd_History_treeOf_20 : decode mi_History_treeOf.2.1 20 = .ok (.getfield 18, 3) := by decide +kernel
theorem jd_History_treeOf_23 : decode mi_History_treeOf.2.1 23 = .ok (.areturn, 1) := by decide +kernel
theorem jd_History_firstParent_0 : decode mi_History_firstParent.2.1 0 = .ok (.iload_n 1, 1) := by decide +kernel
theorem jd_History_firstParent_1 : decode mi_History_firstParent.2.1 1 = .ok (.ifCond .lt 18, 3) := by decide +kernel
theorem jd_History_firstParent_4 : decode mi_History_firstParent.2.1 4 = .ok (.iload_n 1, 1) := by decide +kernel
theorem jd_History_firstParent_5 : decode mi_History_firstParent.2.1 5 = .ok (.bipush 30, 2) := by decide +kernel
theorem jd_History_firstParent_7 : decode mi_History_firstParent.2.1 7 = .ok (.if_icmp .ge 12, 3) := by decide +kernel
theorem jd_History_firstParent_10 : decode mi_History_firstParent.2.1 10 = .ok (.aload_n 0, 1) := by decide +kernel
theorem jd_History_firstParent_11 : decode mi_History_firstParent.2.1 11 = .ok (.getfield 26, 3) := by decide +kernel
theorem jd_History_firstParent_14 : decode mi_History_firstParent.2.1 14 = .ok (.iload_n 1, 1) := by decide +kernel
theorem jd_History_firstParent_15 : decode mi_History_firstParent.2.1 15 = .ok (.iaload, 1) := by decide +kernel
theorem jd_History_firstParent_16 : decode mi_History_firstParent.2.1 16 = .ok (.goto 4, 3) := by decide +kernel
theorem jd_History_firstParent_19 : decode mi_History_firstParent.2.1 19 = .ok (.iconst (-1), 1) := by decide +kernel
theorem jd_History_firstParent_20 : decode mi_History_firstParent.2.1 20 = .ok (.ireturn, 1) := by decide +kernel
theorem jd_History_secondParent_0 : decode mi_History_secondParent.2.1 0 = .ok (.iload_n 1, 1) := by decide +kernel
theorem jd_History_secondParent_1 : decode mi_History_secondParent.2.1 1 = .ok (.ifCond .lt 18, 3) := by decide +kernel
theorem jd_History_secondParent_4 : decode mi_History_secondParent.2.1 4 = .ok (.iload_n 1, 1) := by decide +kernel
theorem jd_History_secondParent_5 : decode mi_History_secondParent.2.1 5 = .ok (.bipush 30, 2) := by decide +kernel
theorem jd_History_secondParent_7 : decode mi_History_secondParent.2.1 7 = .ok (.if_icmp .ge 12, 3) := by decide +kernel
theorem jd_History_secondParent_10 : decode mi_History_secondParent.2.1 10 = .ok (.aload_n 0, 1) := by decide +kernel
theorem jd_History_secondParent_11 : decode mi_History_secondParent.2.1 11 = .ok (.getfield 29, 3) := by decide +kernel
theorem jd_History_secondParent_14 : decode mi_History_secondParent.2.1 14 = .ok (.iload_n 1, 1) := by decide +kernel
theorem jd_History_secondParent_15 : decode mi_History_secondParent.2.1 15 = .ok (.iaload, 1) := by decide +kernel
theorem jd_History_secondParent_16 : decode mi_History_secondParent.2.1 16 = .ok (.goto 4, 3) := by decide +kernel
theorem jd_History_secondParent_19 : decode mi_History_secondParent.2.1 19 = .ok (.iconst (-1), 1) := by decide +kernel
theorem jd_History_secondParent_20 : decode mi_History_secondParent.2.1 20 = .ok (.ireturn, 1) := by decide +kernel
theorem jd_History_noteOf_0 : decode mi_History_noteOf.2.1 0 = .ok (.iload_n 1, 1) := by decide +kernel
theorem jd_History_noteOf_1 : decode mi_History_noteOf.2.1 1 = .ok (.ifCond .lt 18, 3) := by decide +kernel
theorem jd_History_noteOf_4 : decode mi_History_noteOf.2.1 4 = .ok (.iload_n 1, 1) := by decide +kernel
theorem jd_History_noteOf_5 : decode mi_History_noteOf.2.1 5 = .ok (.bipush 30, 2) := by decide +kernel
theorem jd_History_noteOf_7 : decode mi_History_noteOf.2.1 7 = .ok (.if_icmp .ge 12, 3) := by decide +kernel
theorem jd_History_noteOf_10 : decode mi_History_noteOf.2.1 10 = .ok (.aload_n 0, 1) := by decide +kernel
theorem jd_History_noteOf_11 : decode mi_History_noteOf.2.1 11 = .ok (.getfield 22, 3) := by decide +kernel
theorem jd_History_noteOf_14 : decode mi_History_noteOf.2.1 14 = .ok (.iload_n 1, 1) := by decide +kernel
theorem jd_History_noteOf_15 : decode mi_History_noteOf.2.1 15 = .ok (.iaload, 1) := by decide +kernel
theorem jd_History_noteOf_16 : decode mi_History_noteOf.2.1 16 = .ok (.goto 4, 3) := by decide +kernel
theorem jd_History_noteOf_19 : decode mi_History_noteOf.2.1 19 = .ok (.iconst (-1), 1) := by decide +kernel
theorem jd_History_noteOf_20 : decode mi_History_noteOf.2.1 20 = .ok (.ireturn, 1) := by decide +kernel
theorem jd_History_withAncestors_0 : decode mi_History_withAncestors.2.1 0 = .ok (.iload_n 1, 1) := by decide +kernel
theorem jd_History_withAncestors_1 : decode mi_History_withAncestors.2.1 1 = .ok (.istore_n 2, 1) := by decide +kernel
theorem jd_History_withAncestors_2 : decode mi_History_withAncestors.2.1 2 = .ok (.bipush 29, 2) := by decide +kernel
theorem jd_History_withAncestors_4 : decode mi_History_withAncestors.2.1 4 = .ok (.istore_n 3, 1) := by decide +kernel
theorem jd_History_withAncestors_5 : decode mi_History_withAncestors.2.1 5 = .ok (.iload_n 3, 1) := by decide +kernel
theorem jd_History_withAncestors_6 : decode mi_History_withAncestors.2.1 6 = .ok (.ifCond .lt 39, 3) := by decide +kernel
theorem jd_History_withAncestors_9 : decode mi_History_withAncestors.2.1 9 = .ok (.iload_n 3, 1) := by decide +kernel
theorem jd_History_withAncestors_10 : decode mi_History_withAncestors.2.1 10 = .ok (.iload_n 2, 1) := by decide +kernel
theorem jd_History_withAncestors_11 : decode mi_History_withAncestors.2.1 11 = .ok (.invokestatic 52, 3) := by decide +kernel
theorem jd_History_withAncestors_14 : decode mi_History_withAncestors.2.1 14 = .ok (.ifCond .eq 25, 3) := by decide +kernel
theorem jd_History_withAncestors_17 : decode mi_History_withAncestors.2.1 17 = .ok (.iload_n 2, 1) := by decide +kernel
theorem jd_History_withAncestors_18 : decode mi_History_withAncestors.2.1 18 = .ok (.aload_n 0, 1) := by decide +kernel
theorem jd_History_withAncestors_19 : decode mi_History_withAncestors.2.1 19 = .ok (.getfield 26, 3) := by decide +kernel
theorem jd_History_withAncestors_22 : decode mi_History_withAncestors.2.1 22 = .ok (.iload_n 3, 1) := by decide +kernel
theorem jd_History_withAncestors_23 : decode mi_History_withAncestors.2.1 23 = .ok (.iaload, 1) := by decide +kernel
theorem jd_History_withAncestors_24 : decode mi_History_withAncestors.2.1 24 = .ok (.invokestatic 48, 3) := by decide +kernel
theorem jd_History_withAncestors_27 : decode mi_History_withAncestors.2.1 27 = .ok (.aload_n 0, 1) := by decide +kernel
theorem jd_History_withAncestors_28 : decode mi_History_withAncestors.2.1 28 = .ok (.getfield 29, 3) := by decide +kernel
theorem jd_History_withAncestors_31 : decode mi_History_withAncestors.2.1 31 = .ok (.iload_n 3, 1) := by decide +kernel
theorem jd_History_withAncestors_32 : decode mi_History_withAncestors.2.1 32 = .ok (.iaload, 1) := by decide +kernel
theorem jd_History_withAncestors_33 : decode mi_History_withAncestors.2.1 33 = .ok (.invokestatic 48, 3) := by decide +kernel
theorem jd_History_withAncestors_36 : decode mi_History_withAncestors.2.1 36 = .ok (.ior, 1) := by decide +kernel
theorem jd_History_withAncestors_37 : decode mi_History_withAncestors.2.1 37 = .ok (.ior, 1) := by decide +kernel
theorem jd_History_withAncestors_38 : decode mi_History_withAncestors.2.1 38 = .ok (.istore_n 2, 1) := by decide +kernel
theorem jd_History_withAncestors_39 : decode mi_History_withAncestors.2.1 39 = .ok (.iinc 3 (-1), 3) := by decide +kernel
theorem jd_History_withAncestors_42 : decode mi_History_withAncestors.2.1 42 = .ok (.goto (-37), 3) := by decide +kernel
theorem jd_History_withAncestors_45 : decode mi_History_withAncestors.2.1 45 = .ok (.iload_n 2, 1) := by decide +kernel
theorem jd_History_withAncestors_46 : decode mi_History_withAncestors.2.1 46 = .ok (.ireturn, 1) := by decide +kernel
theorem jd_History_ancestorsOf_0 : decode mi_History_ancestorsOf.2.1 0 = .ok (.aload_n 0, 1) := by decide +kernel
theorem jd_History_ancestorsOf_1 : decode mi_History_ancestorsOf.2.1 1 = .ok (.iload_n 1, 1) := by decide +kernel
theorem jd_History_ancestorsOf_2 : decode mi_History_ancestorsOf.2.1 2 = .ok (.invokestatic 48, 3) := by decide +kernel
theorem jd_History_ancestorsOf_5 : decode mi_History_ancestorsOf.2.1 5 = .ok (.invokevirtual 67, 3) := by decide +kernel
theorem jd_History_ancestorsOf_8 : decode mi_History_ancestorsOf.2.1 8 = .ok (.ireturn, 1) := by decide +kernel
theorem jd_History_commonAncestor_0 : decode mi_History_commonAncestor.2.1 0 = .ok (.aload_n 0, 1) := by decide +kernel
theorem jd_History_commonAncestor_1 : decode mi_History_commonAncestor.2.1 1 = .ok (.iload_n 1, 1) := by decide +kernel
theorem jd_History_commonAncestor_2 : decode mi_History_commonAncestor.2.1 2 = .ok (.invokevirtual 70, 3) := by decide +kernel
theorem jd_History_commonAncestor_5 : decode mi_History_commonAncestor.2.1 5 = .ok (.aload_n 0, 1) := by decide +kernel
theorem jd_History_commonAncestor_6 : decode mi_History_commonAncestor.2.1 6 = .ok (.iload_n 2, 1) := by decide +kernel
theorem jd_History_commonAncestor_7 : decode mi_History_commonAncestor.2.1 7 = .ok (.invokevirtual 70, 3) := by decide +kernel
theorem jd_History_commonAncestor_10 : decode mi_History_commonAncestor.2.1 10 = .ok (.iand, 1) := by decide +kernel
theorem jd_History_commonAncestor_11 : decode mi_History_commonAncestor.2.1 11 = .ok (.istore_n 3, 1) := by decide +kernel
theorem jd_History_commonAncestor_12 : decode mi_History_commonAncestor.2.1 12 = .ok (.bipush 29, 2) := by decide +kernel
theorem jd_History_commonAncestor_14 : decode mi_History_commonAncestor.2.1 14 = .ok (.istore 4, 2) := by decide +kernel
theorem jd_History_commonAncestor_16 : decode mi_History_commonAncestor.2.1 16 = .ok (.iload 4, 2) := by decide +kernel
theorem jd_History_commonAncestor_18 : decode mi_History_commonAncestor.2.1 18 = .ok (.ifCond .lt 21, 3) := by decide +kernel
theorem jd_History_commonAncestor_21 : decode mi_History_commonAncestor.2.1 21 = .ok (.iload 4, 2) := by decide +kernel
theorem jd_History_commonAncestor_23 : decode mi_History_commonAncestor.2.1 23 = .ok (.iload_n 3, 1) := by decide +kernel
theorem jd_History_commonAncestor_24 : decode mi_History_commonAncestor.2.1 24 = .ok (.invokestatic 52, 3) := by decide +kernel
theorem jd_History_commonAncestor_27 : decode mi_History_commonAncestor.2.1 27 = .ok (.ifCond .eq 6, 3) := by decide +kernel
theorem jd_History_commonAncestor_30 : decode mi_History_commonAncestor.2.1 30 = .ok (.iload 4, 2) := by decide +kernel
theorem jd_History_commonAncestor_32 : decode mi_History_commonAncestor.2.1 32 = .ok (.ireturn, 1) := by decide +kernel
theorem jd_History_commonAncestor_33 : decode mi_History_commonAncestor.2.1 33 = .ok (.iinc 4 (-1), 3) := by decide +kernel
theorem jd_History_commonAncestor_36 : decode mi_History_commonAncestor.2.1 36 = .ok (.goto (-20), 3) := by decide +kernel
theorem jd_History_commonAncestor_39 : decode mi_History_commonAncestor.2.1 39 = .ok (.iconst (-1), 1) := by decide +kernel
theorem jd_History_commonAncestor_40 : decode mi_History_commonAncestor.2.1 40 = .ok (.ireturn, 1) := by decide +kernel
theorem jd_History_countTrees_0 : decode mi_History_countTrees.2.1 0 = .ok (.iconst 0, 1) := by decide +kernel
theorem jd_History_countTrees_1 : decode mi_History_countTrees.2.1 1 = .ok (.istore_n 2, 1) := by decide +kernel
theorem jd_History_countTrees_2 : decode mi_History_countTrees.2.1 2 = .ok (.iconst 0, 1) := by decide +kernel
theorem jd_History_countTrees_3 : decode mi_History_countTrees.2.1 3 = .ok (.istore_n 3, 1) := by decide +kernel
theorem jd_History_countTrees_4 : decode mi_History_countTrees.2.1 4 = .ok (.iload_n 3, 1) := by decide +kernel
theorem jd_History_countTrees_5 : decode mi_History_countTrees.2.1 5 = .ok (.bipush 30, 2) := by decide +kernel
theorem jd_History_countTrees_7 : decode mi_History_countTrees.2.1 7 = .ok (.if_icmp .ge 29, 3) := by decide +kernel
theorem jd_History_countTrees_10 : decode mi_History_countTrees.2.1 10 = .ok (.iload_n 3, 1) := by decide +kernel
theorem jd_History_countTrees_11 : decode mi_History_countTrees.2.1 11 = .ok (.iload_n 1, 1) := by decide +kernel
theorem jd_History_countTrees_12 : decode mi_History_countTrees.2.1 12 = .ok (.invokestatic 52, 3) := by decide +kernel
theorem jd_History_countTrees_15 : decode mi_History_countTrees.2.1 15 = .ok (.ifCond .eq 15, 3) := by decide +kernel
theorem jd_History_countTrees_18 : decode mi_History_countTrees.2.1 18 = .ok (.iload_n 2, 1) := by decide +kernel
theorem jd_History_countTrees_19 : decode mi_History_countTrees.2.1 19 = .ok (.aload_n 0, 1) := by decide +kernel
theorem jd_History_countTrees_20 : decode mi_History_countTrees.2.1 20 = .ok (.getfield 32, 3) := by decide +kernel
theorem jd_History_countTrees_23 : decode mi_History_countTrees.2.1 23 = .ok (.iload_n 3, 1) := by decide +kernel
theorem jd_History_countTrees_24 : decode mi_History_countTrees.2.1 24 = .ok (.iaload, 1) := by decide +kernel
theorem jd_History_countTrees_25 : decode mi_History_countTrees.2.1 25 = .ok (.invokestatic 48, 3) := by decide +kernel
theorem jd_History_countTrees_28 : decode mi_History_countTrees.2.1 28 = .ok (.ior, 1) := by decide +kernel
theorem jd_History_countTrees_29 : decode mi_History_countTrees.2.1 29 = .ok (.istore_n 2, 1) := by decide +kernel
theorem jd_History_countTrees_30 : decode mi_History_countTrees.2.1 30 = .ok (.iinc 3 1, 3) := by decide +kernel
theorem jd_History_countTrees_33 : decode mi_History_countTrees.2.1 33 = .ok (.goto (-29), 3) := by decide +kernel
theorem jd_History_countTrees_36 : decode mi_History_countTrees.2.1 36 = .ok (.iload_n 2, 1) := by decide +kernel
theorem jd_History_countTrees_37 : decode mi_History_countTrees.2.1 37 = .ok (.invokestatic 73, 3) := by decide +kernel
theorem jd_History_countTrees_40 : decode mi_History_countTrees.2.1 40 = .ok (.ireturn, 1) := by decide +kernel
theorem jd_History_meetContents_0 : decode mi_History_meetContents.2.1 0 = .ok (.aload_n 0, 1) := by decide +kernel
theorem jd_History_meetContents_1 : decode mi_History_meetContents.2.1 1 = .ok (.getfield 38, 3) := by decide +kernel
theorem jd_History_meetContents_4 : decode mi_History_meetContents.2.1 4 = .ok (.iconst 0, 1) := by decide +kernel
theorem jd_History_meetContents_5 : decode mi_History_meetContents.2.1 5 = .ok (.invokestatic 102, 3) := by decide +kernel
theorem jd_History_meetContents_8 : decode mi_History_meetContents.2.1 8 = .ok (.iconst 0, 1) := by decide +kernel
theorem jd_History_meetContents_9 : decode mi_History_meetContents.2.1 9 = .ok (.istore_n 2, 1) := by decide +kernel
theorem jd_History_meetContents_10 : decode mi_History_meetContents.2.1 10 = .ok (.iload_n 2, 1) := by decide +kernel
theorem jd_History_meetContents_11 : decode mi_History_meetContents.2.1 11 = .ok (.bipush 30, 2) := by decide +kernel
theorem jd_History_meetContents_13 : decode mi_History_meetContents.2.1 13 = .ok (.if_icmp .ge 67, 3) := by decide +kernel
theorem jd_History_meetContents_16 : decode mi_History_meetContents.2.1 16 = .ok (.iconst 0, 1) := by decide +kernel
theorem jd_History_meetContents_17 : decode mi_History_meetContents.2.1 17 = .ok (.istore_n 3, 1) := by decide +kernel
theorem jd_History_meetContents_18 : decode mi_History_meetContents.2.1 18 = .ok (.iload_n 3, 1) := by decide +kernel
theorem jd_History_meetContents_19 : decode mi_History_meetContents.2.1 19 = .ok (.bipush 12, 2) := by decide +kernel
theorem jd_History_meetContents_21 : decode mi_History_meetContents.2.1 21 = .ok (.if_icmp .ge 53, 3) := by decide +kernel
theorem jd_History_meetContents_24 : decode mi_History_meetContents.2.1 24 = .ok (.iload_n 2, 1) := by decide +kernel
theorem jd_History_meetContents_25 : decode mi_History_meetContents.2.1 25 = .ok (.iload_n 1, 1) := by decide +kernel
theorem jd_History_meetContents_26 : decode mi_History_meetContents.2.1 26 = .ok (.invokestatic 52, 3) := by decide +kernel
theorem jd_History_meetContents_29 : decode mi_History_meetContents.2.1 29 = .ok (.ifCond .eq 45, 3) := by decide +kernel
theorem jd_History_meetContents_32 : decode mi_History_meetContents.2.1 32 = .ok (.aload_n 0, 1) := by decide +kernel
theorem jd_History_meetContents_33 : decode mi_History_meetContents.2.1 33 = .ok (.getfield 35, 3) := by decide +kernel
theorem jd_History_meetContents_36 : decode mi_History_meetContents.2.1 36 = .ok (.iload_n 2, 1) := by decide +kernel
theorem jd_History_meetContents_37 : decode mi_History_meetContents.2.1 37 = .ok (.bipush 12, 2) := by decide +kernel
theorem jd_History_meetContents_39 : decode mi_History_meetContents.2.1 39 = .ok (.imul, 1) := by decide +kernel
theorem jd_History_meetContents_40 : decode mi_History_meetContents.2.1 40 = .ok (.iload_n 3, 1) := by decide +kernel
theorem jd_History_meetContents_41 : decode mi_History_meetContents.2.1 41 = .ok (.iadd, 1) := by decide +kernel
theorem jd_History_meetContents_42 : decode mi_History_meetContents.2.1 42 = .ok (.iaload, 1) := by decide +kernel
theorem jd_History_meetContents_43 : decode mi_History_meetContents.2.1 43 = .ok (.istore 4, 2) := by decide +kernel
theorem jd_History_meetContents_45 : decode mi_History_meetContents.2.1 45 = .ok (.iload 4, 2) := by decide +kernel
theorem jd_History_meetContents_47 : decode mi_History_meetContents.2.1 47 = .ok (.ifCond .lt 21, 3) := by decide +kernel
theorem jd_History_meetContents_50 : decode mi_History_meetContents.2.1 50 = .ok (.iload 4, 2) := by decide +kernel
theorem jd_History_meetContents_52 : decode mi_History_meetContents.2.1 52 = .ok (.aload_n 0, 1) := by decide +kernel
theorem jd_History_meetContents_53 : decode mi_History_meetContents.2.1 53 = .ok (.getfield 38, 3) := by decide +kernel
theorem jd_History_meetContents_56 : decode mi_History_meetContents.2.1 56 = .ok (.arraylength, 1) := by decide +kernel
theorem jd_History_meetContents_57 : decode mi_History_meetContents.2.1 57 = .ok (.if_icmp .ge 11, 3) := by decide +kernel
theorem jd_History_meetContents_60 : decode mi_History_meetContents.2.1 60 = .ok (.aload_n 0, 1) := by decide +kernel
theorem jd_History_meetContents_61 : decode mi_History_meetContents.2.1 61 = .ok (.getfield 38, 3) := by decide +kernel
theorem jd_History_meetContents_64 : decode mi_History_meetContents.2.1 64 = .ok (.iload 4, 2) := by decide +kernel
theorem jd_History_meetContents_66 : decode mi_History_meetContents.2.1 66 = .ok (.iconst 1, 1) := by decide +kernel
theorem jd_History_meetContents_67 : decode mi_History_meetContents.2.1 67 = .ok (.iastore, 1) := by decide +kernel
theorem jd_History_meetContents_68 : decode mi_History_meetContents.2.1 68 = .ok (.iinc 3 1, 3) := by decide +kernel
theorem jd_History_meetContents_71 : decode mi_History_meetContents.2.1 71 = .ok (.goto (-53), 3) := by decide +kernel
theorem jd_History_meetContents_74 : decode mi_History_meetContents.2.1 74 = .ok (.iinc 2 1, 3) := by decide +kernel
theorem jd_History_meetContents_77 : decode mi_History_meetContents.2.1 77 = .ok (.goto (-67), 3) := by decide +kernel
theorem jd_History_meetContents_80 : decode mi_History_meetContents.2.1 80 = .ok (.return_, 1) := by decide +kernel
theorem jd_History_countContents_0 : decode mi_History_countContents.2.1 0 = .ok (.aload_n 0, 1) := by decide +kernel
theorem jd_History_countContents_1 : decode mi_History_countContents.2.1 1 = .ok (.iload_n 1, 1) := by decide +kernel
theorem jd_History_countContents_2 : decode mi_History_countContents.2.1 2 = .ok (.invokevirtual 84, 3) := by decide +kernel
theorem jd_History_countContents_5 : decode mi_History_countContents.2.1 5 = .ok (.iconst 0, 1) := by decide +kernel
theorem jd_History_countContents_6 : decode mi_History_countContents.2.1 6 = .ok (.istore_n 2, 1) := by decide +kernel
theorem jd_History_countContents_7 : decode mi_History_countContents.2.1 7 = .ok (.iconst 0, 1) := by decide +kernel
theorem jd_History_countContents_8 : decode mi_History_countContents.2.1 8 = .ok (.istore_n 3, 1) := by decide +kernel
theorem jd_History_countContents_9 : decode mi_History_countContents.2.1 9 = .ok (.iload_n 3, 1) := by decide +kernel
theorem jd_History_countContents_10 : decode mi_History_countContents.2.1 10 = .ok (.aload_n 0, 1) := by decide +kernel
theorem jd_History_countContents_11 : decode mi_History_countContents.2.1 11 = .ok (.getfield 38, 3) := by decide +kernel
theorem jd_History_countContents_14 : decode mi_History_countContents.2.1 14 = .ok (.arraylength, 1) := by decide +kernel
theorem jd_History_countContents_15 : decode mi_History_countContents.2.1 15 = .ok (.if_icmp .ge 18, 3) := by decide +kernel
theorem jd_History_countContents_18 : decode mi_History_countContents.2.1 18 = .ok (.iload_n 2, 1) := by decide +kernel
theorem jd_History_countContents_19 : decode mi_History_countContents.2.1 19 = .ok (.aload_n 0, 1) := by decide +kernel
theorem jd_History_countContents_20 : decode mi_History_countContents.2.1 20 = .ok (.getfield 38, 3) := by decide +kernel
theorem jd_History_countContents_23 : decode mi_History_countContents.2.1 23 = .ok (.iload_n 3, 1) := by decide +kernel
theorem jd_History_countContents_24 : decode mi_History_countContents.2.1 24 = .ok (.iaload, 1) := by decide +kernel
theorem jd_History_countContents_25 : decode mi_History_countContents.2.1 25 = .ok (.iadd, 1) := by decide +kernel
theorem jd_History_countContents_26 : decode mi_History_countContents.2.1 26 = .ok (.istore_n 2, 1) := by decide +kernel
theorem jd_History_countContents_27 : decode mi_History_countContents.2.1 27 = .ok (.iinc 3 1, 3) := by decide +kernel
theorem jd_History_countContents_30 : decode mi_History_countContents.2.1 30 = .ok (.goto (-21), 3) := by decide +kernel
theorem jd_History_countContents_33 : decode mi_History_countContents.2.1 33 = .ok (.iload_n 2, 1) := by decide +kernel
theorem jd_History_countContents_34 : decode mi_History_countContents.2.1 34 = .ok (.ireturn, 1) := by decide +kernel
theorem jd_History_countObjects_0 : decode mi_History_countObjects.2.1 0 = .ok (.iload_n 1, 1) := by decide +kernel
theorem jd_History_countObjects_1 : decode mi_History_countObjects.2.1 1 = .ok (.invokestatic 73, 3) := by decide +kernel
theorem jd_History_countObjects_4 : decode mi_History_countObjects.2.1 4 = .ok (.aload_n 0, 1) := by decide +kernel
theorem jd_History_countObjects_5 : decode mi_History_countObjects.2.1 5 = .ok (.iload_n 1, 1) := by decide +kernel
theorem jd_History_countObjects_6 : decode mi_History_countObjects.2.1 6 = .ok (.invokevirtual 78, 3) := by decide +kernel
theorem jd_History_countObjects_9 : decode mi_History_countObjects.2.1 9 = .ok (.iadd, 1) := by decide +kernel
theorem jd_History_countObjects_10 : decode mi_History_countObjects.2.1 10 = .ok (.aload_n 0, 1) := by decide +kernel
theorem jd_History_countObjects_11 : decode mi_History_countObjects.2.1 11 = .ok (.iload_n 1, 1) := by decide +kernel
theorem jd_History_countObjects_12 : decode mi_History_countObjects.2.1 12 = .ok (.invokevirtual 81, 3) := by decide +kernel
theorem jd_History_countObjects_15 : decode mi_History_countObjects.2.1 15 = .ok (.iadd, 1) := by decide +kernel
theorem jd_History_countObjects_16 : decode mi_History_countObjects.2.1 16 = .ok (.ireturn, 1) := by decide +kernel
theorem jd_History_keepOnly_0 : decode mi_History_keepOnly.2.1 0 = .ok (.aload_n 0, 1) := by decide +kernel
theorem jd_History_keepOnly_1 : decode mi_History_keepOnly.2.1 1 = .ok (.dup, 1) := by decide +kernel
theorem jd_History_keepOnly_2 : decode mi_History_keepOnly.2.1 2 = .ok (.getfield 45, 3) := by decide +kernel
theorem jd_History_keepOnly_5 : decode mi_History_keepOnly.2.1 5 = .ok (.iload_n 1, 1) := by decide +kernel
theorem jd_History_keepOnly_6 : decode mi_History_keepOnly.2.1 6 = .ok (.iand, 1) := by decide +kernel
theorem jd_History_keepOnly_7 : decode mi_History_keepOnly.2.1 7 = .ok (.putfield 45, 3) := by decide +kernel
theorem jd_History_keepOnly_10 : decode mi_History_keepOnly.2.1 10 = .ok (.return_, 1) := by decide +kernel
/-! the commits -/
section
variable {o : jw_O} {σ : zS}
theorem h_bits (m : Nat) (hm : m < 2 ^ 30) : zRo mi_Integer_bitCount 0 o [.int (iI m)] σ (some (.int (iI (pcN m)))) := by
  sorry
theorem h_setOf (x : Int) (hx : -2147483648 ≤ x ∧ x < 2147483648) : zRo mi_History_setOf 0 o [.int (iI x)] σ (some (.int (iI (bS x)))) := by
  refine z_spec (by decide +kernel) (Nat.le_of_ble_eq_true rfl) rfl (fun k hs hR hE => ?_)
  refine jw_iload_n (pc' := 1) jd_History_setOf_0 rfl rfl rfl ?_
  refine zx_if_lt (tgt := 16) (pc' := 4) (by first | exact rg_iv _ _ _ | omega) jd_History_setOf_1 (by decide) rfl (fun q => ?_) (fun q => ?_)
  · refine zx_iconst (pc' := 17) (n := 0) jd_History_setOf_16 rfl ?_
    refine zx_iret hE jd_History_setOf_17 rfl ?_
    exact ⟨by unfold bS; rw [if_neg (by omega)]; rfl, rfl⟩
  refine jw_iload_n (pc' := 5) jd_History_setOf_4 rfl rfl rfl ?_
  refine zx_bipush (pc' := 7) (n := 30) jd_History_setOf_5 (by decide +kernel) rfl ?_
  refine zx_icmp_ge (tgt := 16) (pc' := 10) (by first | exact rg_iv _ _ _ | omega) (by first | exact rg_iv _ _ _ | omega) jd_History_setOf_7 (by decide) rfl (fun q2 => ?_) (fun q2 => ?_)
  · refine zx_iconst (pc' := 17) (n := 0) jd_History_setOf_16 rfl ?_
    refine zx_iret hE jd_History_setOf_17 rfl ?_
    exact ⟨by unfold bS; rw [if_neg (by omega)]; rfl, rfl⟩
  obtain ⟨i, hi⟩ : ∃ n : Nat, x = n := ⟨x.toNat, by omega⟩
  subst hi
  refine zx_iconst (pc' := 11) (n := 1) jd_History_setOf_10 rfl ?_
  refine jw_iload_n (pc' := 12) jd_History_setOf_11 rfl rfl rfl ?_
  refine zx_shl1 (pc' := 13) jd_History_setOf_12 (by omega) rfl ?_
  refine jw_goto (tgt := 17) jd_History_setOf_13 (by decide) ?_
  refine zx_iret hE jd_History_setOf_17 rfl ?_
  exact ⟨by rw [bS_i (by omega)], rfl⟩
theorem h_isIn (i m : Nat) (hi : i < 30) (hm : m < 2 ^ 30) : zRo mi_History_isIn 1 o [.int (iI i), .int (iI m)] σ (some (.int (iI (if m.testBit i then 1 else 0)))) := by
  have hb := bS_in (m := m) hi
  have hle : bS (i : Int) &&& m ≤ m := Nat.and_le_right
  refine z_spec (by decide +kernel) (Nat.le_of_ble_eq_true rfl) rfl (fun k hs hR hE => ?_)
  refine jw_iload_n (pc' := 1) jd_History_isIn_0 rfl rfl rfl ?_
  refine zx_callS0 (pc' := 4) hR (h_setOf i (by omega)) jm_History_setOf jq_487 jd_History_isIn_1 rfl rfl (Nat.le_of_ble_eq_true rfl) (by omega) (by decide) rfl rfl ?_
  refine jw_iload_n (pc' := 5) jd_History_isIn_4 rfl rfl rfl ?_
  refine zx_iand (pc' := 6) jd_History_isIn_5 rfl ?_
  refine zx_if_eq (tgt := 13) (pc' := 9) (by first | exact rg_iv _ _ _ | omega) jd_History_isIn_6 (by decide) rfl (fun q => ?_) (fun q => ?_)
  · refine zx_iconst (pc' := 14) (n := 0) jd_History_isIn_13 rfl ?_
    refine zx_zret (by first | exact Or.inl rfl | exact Or.inr rfl | assumption | omega) hE jd_History_isIn_14 rfl ?_
    exact ⟨by rw [if_neg (by rw [hb.mp (by omega)]; exact Bool.false_ne_true)], rfl⟩
  · refine zx_iconst (pc' := 10) (n := 1) jd_History_isIn_9 rfl ?_
    refine jw_goto (tgt := 14) jd_History_isIn_10 (by decide) ?_
    refine zx_zret (by first | exact Or.inl rfl | exact Or.inr rfl | assumption | omega) hE jd_History_isIn_14 rfl ?_
    have e : m.testBit i = true := by
      cases hh : m.testBit i
      · exact absurd (hb.mpr hh) (by omega)
      · rfl
    exact ⟨by rw [if_pos e], rfl⟩
theorem bits_lt {m n : Nat} (h : ∀ j, m.testBit j = true → j < n) : m < 2 ^ n := by
  apply Nat.lt_pow_two_of_testBit
  intro i hi
  cases hh : m.testBit i
  · rfl
  · have := h i hh; omega
theorem lt_bits {m n j : Nat} (h : m < 2 ^ n) (hj : m.testBit j = true) : j < n := by
  by_cases q : j < n
  · exact q
  · have h2 : m < 2 ^ j := Nat.lt_of_lt_of_le h (Nat.pow_le_pow_right (by decide) (by omega))
    rw [Nat.testBit_lt_two_pow h2] at hj
    cases hj
theorem bS_lt (x : Int) : bS x < 2 ^ 30 := bits_lt fun j hj => by rw [bS_bit, decide_eq_true_eq] at hj; omega
theorem p30 : (2 : Nat) ^ 30 = 1073741824 := by decide
/-- the History's numbers: first and second parents, the trees' and the contents' numbers, how many, which are kept -/
def HC (σ : zS) (h : Nat) (f g t c : Nat → Int) (n kp : Nat) : Prop := (∀ i, i < 30 → iv σ (h + 31) i = f i) ∧ (∀ i, i < 30 → iv σ (h + 32) i = g i) ∧ (∀ i, i < 30 → iv σ (h + 33) i = t i) ∧ (∀ i, i < 360 → iv σ (h + 34) i = c i) ∧ iv σ h 8 = n ∧ iv σ h 9 = kp ∧ n ≤ 30 ∧ kp < 2 ^ 30
theorem h_kept {f g t c : Nat → Int} {n kp : Nat} (h : HC σ (zb o + 29) f g t c n kp) : zRo mi_History_kept 0 o [.ref (zb o + 29)] σ (some (.int (iI kp))) := by
  obtain ⟨h1, h2, h3, h4, h5, h6, h7, h8⟩ := h
  refine z_spec (by decide +kernel) (Nat.le_of_ble_eq_true rfl) rfl (fun k hs hR hE => ?_)
  refine jw_aload_n (pc' := 1) jd_History_kept_0 rfl rfl rfl ?_
  refine zx_getI (pc' := 4) (kf := 9) jc_History (by decide) jq_98 jd_History_kept_1 (mc_History _) rfl rfl ?_
  refine zx_iret hE jd_History_kept_4 rfl ?_
  exact ⟨by rw [h6], rfl⟩
theorem h_isFull {f g t c : Nat → Int} {n kp : Nat} (h : HC σ (zb o + 29) f g t c n kp) (hn : n < 30) : zRo mi_History_isFull 0 o [.ref (zb o + 29)] σ (some (.int (iI 0))) := by
  obtain ⟨h1, h2, h3, h4, h5, h6, h7, h8⟩ := h
  refine z_spec (by decide +kernel) (Nat.le_of_ble_eq_true rfl) rfl (fun k hs hR hE => ?_)
  refine jw_aload_n (pc' := 1) jd_History_isFull_0 rfl rfl rfl ?_
  refine zx_getI (pc' := 4) (kf := 8) jc_History (by decide) jq_97 jd_History_isFull_1 (mc_History _) rfl rfl ?_
  refine zx_bipush (pc' := 6) (n := 30) jd_History_isFull_4 (by decide +kernel) rfl ?_
  refine zx_icmp_lt (tgt := 13) (pc' := 9) (by first | exact rg_iv _ _ _ | omega) (by first | exact rg_iv _ _ _ | omega) jd_History_isFull_6 (by decide) rfl (fun q => ?_) (fun q => ?_)
  rotate_left
  · exfalso; omega
  refine zx_iconst (pc' := 14) (n := 0) jd_History_isFull_13 rfl ?_
  refine zx_zret (by first | exact Or.inl rfl | exact Or.inr rfl | assumption | omega) hE jd_History_isFull_14 rfl ?_
  exact ⟨rfl, rfl⟩
theorem h_holds {f g t c : Nat → Int} {n kp : Nat} (h : HC σ (zb o + 29) f g t c n kp) (i : Nat) (hi : i < 30) : zRo mi_History_holds 2 o [.ref (zb o + 29), .int (iI i)] σ (some (.int (iI (if kp.testBit i then 1 else 0)))) := by
  obtain ⟨h1, h2, h3, h4, h5, h6, h7, h8⟩ := h
  have h01 : (if kp.testBit i then (1 : Int) else 0) = 0 ∨ (if kp.testBit i then (1 : Int) else 0) = 1 := by split <;> omega
  refine z_spec (by decide +kernel) (Nat.le_of_ble_eq_true rfl) rfl (fun k hs hR hE => ?_)
  refine jw_iload_n (pc' := 1) jd_History_holds_0 rfl rfl rfl ?_
  refine jw_aload_n (pc' := 2) jd_History_holds_1 rfl rfl rfl ?_
  refine zx_getI (pc' := 5) (kf := 9) jc_History (by decide) jq_98 jd_History_holds_2 (mc_History _) rfl rfl ?_
  refine jw_sub (lc' := []) trivial ?_
  rw [h6]
  refine zx_callS0 (pc' := 8) hR (h_isIn i kp hi h8) jm_History_isIn jq_528 jd_History_holds_5 rfl rfl (Nat.le_of_ble_eq_true rfl) (by omega) (by decide) rfl rfl ?_
  refine zx_zret (by first | exact Or.inl rfl | exact Or.inr rfl | assumption | omega) hE jd_History_holds_8 rfl ?_
  exact ⟨rfl, rfl⟩
def trA (o : jw_O) (x : Int) : Nat := if 0 ≤ x ∧ x < 30 then tA o x.toNat else zb o + 31
theorem trA_i {i : Nat} (h : i < 30) : trA o i = tA o i := by unfold trA; rw [if_pos (by omega)]; rfl
theorem trA_n : trA o (-1) = zb o + 31 := by unfold trA; rw [if_neg (by omega)]
theorem h_treeOf (x : Int) (hx : -2147483648 ≤ x ∧ x < 2147483648) : zRo mi_History_treeOf 0 o [.ref (zb o + 29), .int (iI x)] σ (some (.ref (trA o x))) := by
  refine z_spec (by decide +kernel) (Nat.le_of_ble_eq_true rfl) rfl (fun k hs hR hE => ?_)
  refine jw_iload_n (pc' := 1) jd_History_treeOf_0 rfl rfl rfl ?_
  refine zx_if_lt (tgt := 19) (pc' := 4) (by first | exact rg_iv _ _ _ | omega) jd_History_treeOf_1 (by decide) rfl (fun q => ?_) (fun q => ?_)
  · refine jw_aload_n (pc' := 20) jd_History_treeOf_19 rfl rfl rfl ?_
    refine jw_get (pc' := 23) (kf := 1) jc_History (by decide) jq_90 jd_History_treeOf_20 (mc_History _) rfl rfl ?_
    refine zx_aret hE jd_History_treeOf_23 rfl ?_
    exact ⟨by unfold trA; rw [if_neg (by omega)], rfl⟩
  refine jw_iload_n (pc' := 5) jd_History_treeOf_4 rfl rfl rfl ?_
  refine zx_bipush (pc' := 7) (n := 30) jd_History_treeOf_5 (by decide +kernel) rfl ?_
  refine zx_icmp_ge (tgt := 19) (pc' := 10) (by first | exact rg_iv _ _ _ | omega) (by first | exact rg_iv _ _ _ | omega) jd_History_treeOf_7 (by decide) rfl (fun q2 => ?_) (fun q2 => ?_)
  · refine jw_aload_n (pc' := 20) jd_History_treeOf_19 rfl rfl rfl ?_
    refine jw_get (pc' := 23) (kf := 1) jc_History (by decide) jq_90 jd_History_treeOf_20 (mc_History _) rfl rfl ?_
    refine zx_aret hE jd_History_treeOf_23 rfl ?_
    exact ⟨by unfold trA; rw [if_neg (by omega)], rfl⟩
  obtain ⟨i, hi⟩ : ∃ n : Nat, x = n := ⟨x.toNat, by omega⟩
  subst hi
  refine jw_aload_n (pc' := 11) jd_History_treeOf_10 rfl rfl rfl ?_
  refine jw_get (pc' := 14) (kf := 0) jc_History (by decide) jq_89 jd_History_treeOf_11 (mc_History _) rfl rfl ?_
  refine jw_iload_n (pc' := 15) jd_History_treeOf_14 rfl rfl rfl ?_
  refine zx_trees (pc' := 16) jd_History_treeOf_15 rfl (by omega) rfl ?_
  refine jw_goto (tgt := 23) jd_History_treeOf_16 (by decide) ?_
  refine zx_aret hE jd_History_treeOf_23 rfl ?_
  exact ⟨by rw [trA_i (by omega)], rfl⟩
theorem h_first (i : Nat) (hi : i < 30) : zRo mi_History_firstParent 0 o [.ref (zb o + 29), .int (iI i)] σ (some (.int (iI (iv σ (zb o + 60) i)))) := by
  refine z_spec (by decide +kernel) (Nat.le_of_ble_eq_true rfl) rfl (fun k hs hR hE => ?_)
  refine jw_iload_n (pc' := 1) jd_History_firstParent_0 rfl rfl rfl ?_
  refine zx_if_lt (tgt := 19) (pc' := 4) (by first | exact rg_iv _ _ _ | omega) jd_History_firstParent_1 (by decide) rfl (fun q => ?_) (fun q => ?_)
  · exfalso; omega
  refine jw_iload_n (pc' := 5) jd_History_firstParent_4 rfl rfl rfl ?_
  refine zx_bipush (pc' := 7) (n := 30) jd_History_firstParent_5 (by decide +kernel) rfl ?_
  refine zx_icmp_ge (tgt := 19) (pc' := 10) (by first | exact rg_iv _ _ _ | omega) (by first | exact rg_iv _ _ _ | omega) jd_History_firstParent_7 (by decide) rfl (fun q2 => ?_) (fun q2 => ?_)
  · exfalso; omega
  refine jw_aload_n (pc' := 11) jd_History_firstParent_10 rfl rfl rfl ?_
  refine jw_get (pc' := 14) (kf := 3) jc_History (by decide) jq_92 jd_History_firstParent_11 (mc_History _) rfl rfl ?_
  refine jw_iload_n (pc' := 15) jd_History_firstParent_14 rfl rfl rfl ?_
  refine zx_iald (pc' := 16) jd_History_firstParent_15 (ml_History_firstParents _) rfl (by omega) (Nat.le_of_ble_eq_true rfl) rfl ?_
  refine jw_goto (tgt := 20) jd_History_firstParent_16 (by decide) ?_
  refine zx_iret hE jd_History_firstParent_20 rfl ?_
  exact ⟨rfl, rfl⟩
theorem h_second (i : Nat) (hi : i < 30) : zRo mi_History_secondParent 0 o [.ref (zb o + 29), .int (iI i)] σ (some (.int (iI (iv σ (zb o + 61) i)))) := by
  refine z_spec (by decide +kernel) (Nat.le_of_ble_eq_true rfl) rfl (fun k hs hR hE => ?_)
  refine jw_iload_n (pc' := 1) jd_History_secondParent_0 rfl rfl rfl ?_
  refine zx_if_lt (tgt := 19) (pc' := 4) (by first | exact rg_iv _ _ _ | omega) jd_History_secondParent_1 (by decide) rfl (fun q => ?_) (fun q => ?_)
  · exfalso; omega
  refine jw_iload_n (pc' := 5) jd_History_secondParent_4 rfl rfl rfl ?_
  refine zx_bipush (pc' := 7) (n := 30) jd_History_secondParent_5 (by decide +kernel) rfl ?_
  refine zx_icmp_ge (tgt := 19) (pc' := 10) (by first | exact rg_iv _ _ _ | omega) (by first | exact rg_iv _ _ _ | omega) jd_History_secondParent_7 (by decide) rfl (fun q2 => ?_) (fun q2 => ?_)
  · exfalso; omega
  refine jw_aload_n (pc' := 11) jd_History_secondParent_10 rfl rfl rfl ?_
  refine jw_get (pc' := 14) (kf := 4) jc_History (by decide) jq_93 jd_History_secondParent_11 (mc_History _) rfl rfl ?_
  refine jw_iload_n (pc' := 15) jd_History_secondParent_14 rfl rfl rfl ?_
  refine zx_iald (pc' := 16) jd_History_secondParent_15 (ml_History_secondParents _) rfl (by omega) (Nat.le_of_ble_eq_true rfl) rfl ?_
  refine jw_goto (tgt := 20) jd_History_secondParent_16 (by decide) ?_
  refine zx_iret hE jd_History_secondParent_20 rfl ?_
  exact ⟨rfl, rfl⟩
theorem h_note (i : Nat) (hi : i < 30) : zRo mi_History_noteOf 0 o [.ref (zb o + 29), .int (iI i)] σ (some (.int (iI (iv σ (zb o + 59) i)))) := by
  refine z_spec (by decide +kernel) (Nat.le_of_ble_eq_true rfl) rfl (fun k hs hR hE => ?_)
  refine jw_iload_n (pc' := 1) jd_History_noteOf_0 rfl rfl rfl ?_
  refine zx_if_lt (tgt := 19) (pc' := 4) (by first | exact rg_iv _ _ _ | omega) jd_History_noteOf_1 (by decide) rfl (fun q => ?_) (fun q => ?_)
  · exfalso; omega
  refine jw_iload_n (pc' := 5) jd_History_noteOf_4 rfl rfl rfl ?_
  refine zx_bipush (pc' := 7) (n := 30) jd_History_noteOf_5 (by decide +kernel) rfl ?_
  refine zx_icmp_ge (tgt := 19) (pc' := 10) (by first | exact rg_iv _ _ _ | omega) (by first | exact rg_iv _ _ _ | omega) jd_History_noteOf_7 (by decide) rfl (fun q2 => ?_) (fun q2 => ?_)
  · exfalso; omega
  refine jw_aload_n (pc' := 11) jd_History_noteOf_10 rfl rfl rfl ?_
  refine jw_get (pc' := 14) (kf := 2) jc_History (by decide) jq_91 jd_History_noteOf_11 (mc_History _) rfl rfl ?_
  refine jw_iload_n (pc' := 15) jd_History_noteOf_14 rfl rfl rfl ?_
  refine zx_iald (pc' := 16) jd_History_noteOf_15 (ml_History_notes _) rfl (by omega) (Nat.le_of_ble_eq_true rfl) rfl ?_
  refine jw_goto (tgt := 20) jd_History_noteOf_16 (by decide) ?_
  refine zx_iret hE jd_History_noteOf_20 rfl ?_
  exact ⟨rfl, rfl⟩
section
variable {f g t c : Nat → Int} {n kp : Nat}
theorem or3_lt {a b m : Nat} (ha : a < 2 ^ 30) (hb : b < 2 ^ 30) (hm : m < 2 ^ 30) : m ||| (a ||| b) < 2 ^ 30 := Nat.or_lt_two_pow hm (Nat.or_lt_two_pow ha hb)
theorem h_anc (h : HC σ (zb o + 29) f g t c n kp) (m0 : Nat) (hm0 : m0 < 2 ^ 30) : zRo mi_History_withAncestors 2 o [.ref (zb o + 29), .int (iI m0)] σ (some (.int (iI (waF f g 30 m0)))) := by
  obtain ⟨h1, h2, h3, h4, h5, h6, h7, h8⟩ := h
  refine z_spec (by decide +kernel) (Nat.le_of_ble_eq_true rfl) rfl (fun k hs hR hE => ?_)
  refine jw_iload_n (pc' := 1) jd_History_withAncestors_0 rfl rfl rfl ?_
  refine jw_istore_n (pc' := 2) (lc' := [(0, _), (2, _)]) jd_History_withAncestors_1 rfl (Nat.le_of_ble_eq_true rfl) ⟨rfl, rfl, trivial⟩ rfl ?_
  refine zx_bipush (pc' := 4) (n := 29) jd_History_withAncestors_2 (by decide +kernel) rfl ?_
  refine jw_istore_n (pc' := 5) (lc' := [(0, _), (2, _), (3, _)]) jd_History_withAncestors_4 rfl (Nat.le_of_ble_eq_true rfl) ⟨rfl, rfl, rfl, trivial⟩ rfl ?_
  have loop : ∀ (i m : Nat), i ≤ 30 → m < 2 ^ 30 → waF f g i m = waF f g 30 m0 → jw_X mi_History_withAncestors o k 0 0 5 [(0, .ref (zb o + 29)), (2, .int (iI m)), (3, .int (iI (i - 1)))] [] (mm o σ) hs := by
    intro i
    induction i with
    | zero =>
      intro m hi hm he
      refine jw_iload_n (pc' := 6) jd_History_withAncestors_5 rfl rfl rfl ?_
      refine zx_if_lt (tgt := 45) (pc' := 9) (by first | exact rg_iv _ _ _ | omega) jd_History_withAncestors_6 (by decide) rfl (fun q => ?_) (fun q => ?_)
      rotate_left
      · exfalso; omega
      refine jw_iload_n (pc' := 46) jd_History_withAncestors_45 rfl rfl rfl ?_
      refine zx_iret hE jd_History_withAncestors_46 rfl ?_
      have he : m = waF f g 30 m0 := he
      exact ⟨by rw [← he], rfl⟩
    | succ i ih =>
      intro m hi hm he
      have e1 : ((i + 1 : Nat) : Int) - 1 = (i : Int) := by omega
      rw [e1]
      have r1 := rg_iv σ (zb o + 60) i
      have r2 := rg_iv σ (zb o + 61) i
      have g1 := h1 i (by omega)
      have g2 := h2 i (by omega)
      unfold waF at he
      refine jw_iload_n (pc' := 6) jd_History_withAncestors_5 rfl rfl rfl ?_
      refine zx_if_lt (tgt := 45) (pc' := 9) (by first | exact rg_iv _ _ _ | omega) jd_History_withAncestors_6 (by decide) rfl (fun q => ?_) (fun q => ?_)
      · exfalso; omega
      refine jw_iload_n (pc' := 10) jd_History_withAncestors_9 rfl rfl rfl ?_
      refine jw_iload_n (pc' := 11) jd_History_withAncestors_10 rfl rfl rfl ?_
      refine zx_callS0 (pc' := 14) hR (h_isIn i m (by omega) hm) jm_History_isIn jq_528 jd_History_withAncestors_11 rfl rfl (Nat.le_of_ble_eq_true rfl) (by omega) (by decide) rfl rfl ?_
      by_cases e : m.testBit i = true
      · rw [if_pos e] at he ⊢
        refine zx_if_eq (tgt := 39) (pc' := 17) (by first | exact rg_iv _ _ _ | omega) jd_History_withAncestors_14 (by decide) rfl (fun q2 => ?_) (fun q2 => ?_)
        · exfalso; omega
        refine jw_iload_n (pc' := 18) jd_History_withAncestors_17 rfl rfl rfl ?_
        refine jw_aload_n (pc' := 19) jd_History_withAncestors_18 rfl rfl rfl ?_
        refine jw_get (pc' := 22) (kf := 3) jc_History (by decide) jq_92 jd_History_withAncestors_19 (mc_History _) rfl rfl ?_
        refine jw_iload_n (pc' := 23) jd_History_withAncestors_22 rfl rfl rfl ?_
        refine zx_iald (pc' := 24) jd_History_withAncestors_23 (ml_History_firstParents _) rfl (by omega) (Nat.le_of_ble_eq_true rfl) rfl ?_
        refine zx_callS0 (pc' := 27) hR (h_setOf _ r1) jm_History_setOf jq_487 jd_History_withAncestors_24 rfl rfl (Nat.le_of_ble_eq_true rfl) (by omega) (by decide) rfl rfl ?_
        refine jw_aload_n (pc' := 28) jd_History_withAncestors_27 rfl rfl rfl ?_
        refine jw_get (pc' := 31) (kf := 4) jc_History (by decide) jq_93 jd_History_withAncestors_28 (mc_History _) rfl rfl ?_
        refine jw_iload_n (pc' := 32) jd_History_withAncestors_31 rfl rfl rfl ?_
        refine zx_iald (pc' := 33) jd_History_withAncestors_32 (ml_History_secondParents _) rfl (by omega) (Nat.le_of_ble_eq_true rfl) rfl ?_
        refine zx_callS0 (pc' := 36) hR (h_setOf _ r2) jm_History_setOf jq_487 jd_History_withAncestors_33 rfl rfl (Nat.le_of_ble_eq_true rfl) (by omega) (by decide) rfl rfl ?_
        refine zx_ior (pc' := 37) jd_History_withAncestors_36 rfl ?_
        refine zx_ior (pc' := 38) jd_History_withAncestors_37 rfl ?_
        refine jw_istore_n (pc' := 39) (lc' := [(0, _), (2, _), (3, _)]) jd_History_withAncestors_38 rfl (Nat.le_of_ble_eq_true rfl) ⟨rfl, rfl, rfl, trivial⟩ rfl ?_
        refine zx_iinc (pc' := 42) (lc' := [(0, _), (2, _), (3, _)]) jd_History_withAncestors_39 rfl (Nat.le_of_ble_eq_true rfl) ⟨rfl, rfl, rfl, trivial⟩ rfl ?_
        refine jw_goto (tgt := 5) jd_History_withAncestors_42 (by decide) ?_
        rw [show iv σ (zb o + 60) i = f i from g1, show iv σ (zb o + 61) i = g i from g2, show (i : Int) + -1 = i - 1 by omega]
        exact ih _ (by omega) (or3_lt (bS_lt _) (bS_lt _) hm) he
      · rw [if_neg e] at he ⊢
        refine zx_if_eq (tgt := 39) (pc' := 17) (by first | exact rg_iv _ _ _ | omega) jd_History_withAncestors_14 (by decide) rfl (fun q2 => ?_) (fun q2 => ?_)
        rotate_left
        · exfalso; omega
        refine zx_iinc (pc' := 42) (lc' := [(0, _), (2, _), (3, _)]) jd_History_withAncestors_39 rfl (Nat.le_of_ble_eq_true rfl) ⟨rfl, rfl, rfl, trivial⟩ rfl ?_
        refine jw_goto (tgt := 5) jd_History_withAncestors_42 (by decide) ?_
        rw [show (i : Int) + -1 = i - 1 by omega]
        exact ih m (by omega) hm he
  exact loop 30 m0 (by omega) hm0 rfl
theorem h_ancOf (h : HC σ (zb o + 29) f g t c n kp) (x : Int) (hx : -2147483648 ≤ x ∧ x < 2147483648) : zRo mi_History_ancestorsOf 3 o [.ref (zb o + 29), .int (iI x)] σ (some (.int (iI (ancF f g x)))) := by
  refine z_spec (by decide +kernel) (Nat.le_of_ble_eq_true rfl) rfl (fun k hs hR hE => ?_)
  refine jw_aload_n (pc' := 1) jd_History_ancestorsOf_0 rfl rfl rfl ?_
  refine jw_iload_n (pc' := 2) jd_History_ancestorsOf_1 rfl rfl rfl ?_
  refine zx_callS0 (pc' := 5) hR (h_setOf x hx) jm_History_setOf jq_487 jd_History_ancestorsOf_2 rfl rfl (Nat.le_of_ble_eq_true rfl) (by omega) (by decide) rfl rfl ?_
  refine zx_callV0 (pc' := 8) hR (h_anc h _ (bS_lt _)) jm_History_withAncestors jq_524 jc_History jd_History_ancestorsOf_5 (mc_History _) rfl rfl (Nat.le_of_ble_eq_true rfl) (by omega) (by decide) rfl rfl ?_
  refine zx_iret hE jd_History_ancestorsOf_8 rfl ?_
  exact ⟨rfl, rfl⟩
theorem waF_lt {f g : Nat → Int} : ∀ (i m : Nat), m < 2 ^ 30 → waF f g i m < 2 ^ 30
  | 0, _, h => h
  | i + 1, m, h => by
    unfold waF
    split
    · exact waF_lt i _ (or3_lt (bS_lt _) (bS_lt _) h)
    · exact waF_lt i m h
theorem h_common (h : HC σ (zb o + 29) f g t c n kp) (x y : Int) (hx : -2147483648 ≤ x ∧ x < 2147483648) (hy : -2147483648 ≤ y ∧ y < 2147483648) : zRo mi_History_commonAncestor 4 o [.ref (zb o + 29), .int (iI x), .int (iI y)] σ (some (.int (iI (caF f g x y)))) := by
  have hlt : ancF f g x &&& ancF f g y < 2 ^ 30 := Nat.and_lt_two_pow _ (waF_lt 30 _ (bS_lt _))
  refine z_spec (by decide +kernel) (Nat.le_of_ble_eq_true rfl) rfl (fun k hs hR hE => ?_)
  refine jw_aload_n (pc' := 1) jd_History_commonAncestor_0 rfl rfl rfl ?_
  refine jw_iload_n (pc' := 2) jd_History_commonAncestor_1 rfl rfl rfl ?_
  refine zx_callV0 (pc' := 5) hR (h_ancOf h x hx) jm_History_ancestorsOf jq_520 jc_History jd_History_commonAncestor_2 (mc_History _) rfl rfl (Nat.le_of_ble_eq_true rfl) (by omega) (by decide) rfl rfl ?_
  refine jw_aload_n (pc' := 6) jd_History_commonAncestor_5 rfl rfl rfl ?_
  refine jw_iload_n (pc' := 7) jd_History_commonAncestor_6 rfl rfl rfl ?_
  refine zx_callV0 (pc' := 10) hR (h_ancOf h y hy) jm_History_ancestorsOf jq_520 jc_History jd_History_commonAncestor_7 (mc_History _) rfl rfl (Nat.le_of_ble_eq_true rfl) (by omega) (by decide) rfl rfl ?_
  refine zx_iand (pc' := 11) jd_History_commonAncestor_10 rfl ?_
  refine jw_istore_n (pc' := 12) (lc' := [(3, _)]) jd_History_commonAncestor_11 rfl (Nat.le_of_ble_eq_true rfl) ⟨rfl, trivial⟩ rfl ?_
  refine zx_bipush (pc' := 14) (n := 29) jd_History_commonAncestor_12 (by decide +kernel) rfl ?_
  refine jw_istore (pc' := 16) (lc' := [(3, _), (4, _)]) jd_History_commonAncestor_14 (Nat.le_of_ble_eq_true rfl) ⟨rfl, rfl, trivial⟩ rfl ?_
  have loop : ∀ (i : Nat), i ≤ 30 → hiB (ancF f g x &&& ancF f g y) i = caF f g x y → jw_X mi_History_commonAncestor o k 0 0 16 [(3, .int (iI ((ancF f g x &&& ancF f g y : Nat) : Int))), (4, .int (iI (i - 1)))] [] (mm o σ) hs := by
    intro i
    induction i with
    | zero =>
      intro hi he
      refine jw_iload (pc' := 18) jd_History_commonAncestor_16 rfl rfl ?_
      refine zx_if_lt (tgt := 39) (pc' := 21) (by first | exact rg_iv _ _ _ | omega) jd_History_commonAncestor_18 (by decide) rfl (fun q => ?_) (fun q => ?_)
      rotate_left
      · exfalso; omega
      refine zx_iconst (pc' := 40) (n := -1) jd_History_commonAncestor_39 rfl ?_
      refine zx_iret hE jd_History_commonAncestor_40 rfl ?_
      have he : (-1 : Int) = caF f g x y := he
      exact ⟨by rw [← he], rfl⟩
    | succ i ih =>
      intro hi he
      have e1 : ((i + 1 : Nat) : Int) - 1 = (i : Int) := by omega
      rw [e1]
      unfold hiB at he
      refine jw_iload (pc' := 18) jd_History_commonAncestor_16 rfl rfl ?_
      refine zx_if_lt (tgt := 39) (pc' := 21) (by first | exact rg_iv _ _ _ | omega) jd_History_commonAncestor_18 (by decide) rfl (fun q => ?_) (fun q => ?_)
      · exfalso; omega
      refine jw_iload (pc' := 23) jd_History_commonAncestor_21 rfl rfl ?_
      refine jw_iload_n (pc' := 24) jd_History_commonAncestor_23 rfl rfl rfl ?_
      refine zx_callS0 (pc' := 27) hR (h_isIn i _ (by omega) hlt) jm_History_isIn jq_528 jd_History_commonAncestor_24 rfl rfl (Nat.le_of_ble_eq_true rfl) (by omega) (by decide) rfl rfl ?_
      by_cases e : (ancF f g x &&& ancF f g y).testBit i = true
      · rw [if_pos e] at he ⊢
        refine zx_if_eq (tgt := 33) (pc' := 30) (by first | exact rg_iv _ _ _ | omega) jd_History_commonAncestor_27 (by decide) rfl (fun q2 => ?_) (fun q2 => ?_)
        · exfalso; omega
        refine jw_iload (pc' := 32) jd_History_commonAncestor_30 rfl rfl ?_
        refine zx_iret hE jd_History_commonAncestor_32 rfl ?_
        exact ⟨by rw [← he], rfl⟩
      · rw [if_neg e] at he ⊢
        refine zx_if_eq (tgt := 33) (pc' := 30) (by first | exact rg_iv _ _ _ | omega) jd_History_commonAncestor_27 (by decide) rfl (fun q2 => ?_) (fun q2 => ?_)
        rotate_left
        · exfalso; omega
        refine zx_iinc (pc' := 36) (lc' := [(3, _), (4, _)]) jd_History_commonAncestor_33 rfl (Nat.le_of_ble_eq_true rfl) ⟨rfl, rfl, trivial⟩ rfl ?_
        refine jw_goto (tgt := 16) jd_History_commonAncestor_36 (by decide) ?_
        rw [show (i : Int) + -1 = i - 1 by omega]
        exact ih (by omega) he
  exact loop 30 (by omega) rfl
theorem diF_lt (t : Nat → Int) (m : Nat) : ∀ i, diF t m i < 2 ^ 30
  | 0 => by show 0 < _; decide
  | i + 1 => by
    unfold diF
    split
    · exact Nat.or_lt_two_pow (diF_lt t m i) (bS_lt _)
    · exact diF_lt t m i
theorem h_trees (h : HC σ (zb o + 29) f g t c n kp) (m : Nat) (hm : m < 2 ^ 30) : zRo mi_History_countTrees 2 o [.ref (zb o + 29), .int (iI m)] σ (some (.int (iI (pcN (diF t m 30))))) := by
  obtain ⟨h1, h2, h3, h4, h5, h6, h7, h8⟩ := h
  refine z_spec (by decide +kernel) (Nat.le_of_ble_eq_true rfl) rfl (fun k hs hR hE => ?_)
  refine zx_iconst (pc' := 1) (n := 0) jd_History_countTrees_0 rfl ?_
  refine jw_istore_n (pc' := 2) (lc' := [(0, _), (1, _), (2, _)]) jd_History_countTrees_1 rfl (Nat.le_of_ble_eq_true rfl) ⟨rfl, rfl, rfl, trivial⟩ rfl ?_
  refine zx_iconst (pc' := 3) (n := 0) jd_History_countTrees_2 rfl ?_
  refine jw_istore_n (pc' := 4) (lc' := [(0, _), (1, _), (2, _), (3, _)]) jd_History_countTrees_3 rfl (Nat.le_of_ble_eq_true rfl) ⟨rfl, rfl, rfl, rfl, trivial⟩ rfl ?_
  have loop : ∀ (d i : Nat), i + d = 30 → jw_X mi_History_countTrees o k 0 0 4 [(0, .ref (zb o + 29)), (1, .int (iI m)), (2, .int (iI (diF t m i))), (3, .int (iI i))] [] (mm o σ) hs := by
    intro d
    induction d with
    | zero =>
      intro i hi
      refine jw_iload_n (pc' := 5) jd_History_countTrees_4 rfl rfl rfl ?_
      refine zx_bipush (pc' := 7) (n := 30) jd_History_countTrees_5 (by decide +kernel) rfl ?_
      refine zx_icmp_ge (tgt := 36) (pc' := 10) (by first | exact rg_iv _ _ _ | omega) (by first | exact rg_iv _ _ _ | omega) jd_History_countTrees_7 (by decide) rfl (fun q => ?_) (fun q => ?_)
      rotate_left
      · exfalso; omega
      rw [show i = 30 by omega]
      refine jw_iload_n (pc' := 37) jd_History_countTrees_36 rfl rfl rfl ?_
      refine zx_callS0 (pc' := 40) hR (h_bits _ (diF_lt t m 30)) jm_Integer_bitCount jq_698 jd_History_countTrees_37 rfl rfl (Nat.le_of_ble_eq_true rfl) (by omega) (by decide) rfl rfl ?_
      refine zx_iret hE jd_History_countTrees_40 rfl ?_
      exact ⟨rfl, rfl⟩
    | succ d ih =>
      intro i hi
      have r1 := rg_iv σ (zb o + 62) i
      have g1 := h3 i (by omega)
      have ih1 := ih (i + 1) (by omega)
      unfold diF at ih1
      refine jw_iload_n (pc' := 5) jd_History_countTrees_4 rfl rfl rfl ?_
      refine zx_bipush (pc' := 7) (n := 30) jd_History_countTrees_5 (by decide +kernel) rfl ?_
      refine zx_icmp_ge (tgt := 36) (pc' := 10) (by first | exact rg_iv _ _ _ | omega) (by first | exact rg_iv _ _ _ | omega) jd_History_countTrees_7 (by decide) rfl (fun q => ?_) (fun q => ?_)
      · exfalso; omega
      refine jw_iload_n (pc' := 11) jd_History_countTrees_10 rfl rfl rfl ?_
      refine jw_iload_n (pc' := 12) jd_History_countTrees_11 rfl rfl rfl ?_
      refine zx_callS0 (pc' := 15) hR (h_isIn i m (by omega) hm) jm_History_isIn jq_528 jd_History_countTrees_12 rfl rfl (Nat.le_of_ble_eq_true rfl) (by omega) (by decide) rfl rfl ?_
      by_cases e : m.testBit i = true
      · rw [if_pos e] at ih1 ⊢
        refine zx_if_eq (tgt := 30) (pc' := 18) (by first | exact rg_iv _ _ _ | omega) jd_History_countTrees_15 (by decide) rfl (fun q2 => ?_) (fun q2 => ?_)
        · exfalso; omega
        refine jw_iload_n (pc' := 19) jd_History_countTrees_18 rfl rfl rfl ?_
        refine jw_aload_n (pc' := 20) jd_History_countTrees_19 rfl rfl rfl ?_
        refine jw_get (pc' := 23) (kf := 5) jc_History (by decide) jq_94 jd_History_countTrees_20 (mc_History _) rfl rfl ?_
        refine jw_iload_n (pc' := 24) jd_History_countTrees_23 rfl rfl rfl ?_
        refine zx_iald (pc' := 25) jd_History_countTrees_24 (ml_History_treeNumbers _) rfl (by omega) (Nat.le_of_ble_eq_true rfl) rfl ?_
        refine zx_callS0 (pc' := 28) hR (h_setOf _ r1) jm_History_setOf jq_487 jd_History_countTrees_25 rfl rfl (Nat.le_of_ble_eq_true rfl) (by omega) (by decide) rfl rfl ?_
        rw [show iv σ (zb o + 62) i = t i from g1]
        refine zx_ior (pc' := 29) jd_History_countTrees_28 rfl ?_
        refine jw_istore_n (pc' := 30) (lc' := [(0, _), (1, _), (2, _), (3, _)]) jd_History_countTrees_29 rfl (Nat.le_of_ble_eq_true rfl) ⟨rfl, rfl, rfl, rfl, trivial⟩ rfl ?_
        refine zx_iinc (pc' := 33) (lc' := [(0, _), (1, _), (2, _), (3, _)]) jd_History_countTrees_30 rfl (Nat.le_of_ble_eq_true rfl) ⟨rfl, rfl, rfl, rfl, trivial⟩ rfl ?_
        refine jw_goto (tgt := 4) jd_History_countTrees_33 (by decide) ?_
        exact ih1
      · rw [if_neg e] at ih1 ⊢
        refine zx_if_eq (tgt := 30) (pc' := 18) (by first | exact rg_iv _ _ _ | omega) jd_History_countTrees_15 (by decide) rfl (fun q2 => ?_) (fun q2 => ?_)
        rotate_left
        · exfalso; omega
        refine zx_iinc (pc' := 33) (lc' := [(0, _), (1, _), (2, _), (3, _)]) jd_History_countTrees_30 rfl (Nat.le_of_ble_eq_true rfl) ⟨rfl, rfl, rfl, rfl, trivial⟩ rfl ?_
        refine jw_goto (tgt := 4) jd_History_countTrees_33 (by decide) ?_
        exact ih1
  exact loop 30 0 (by omega)
/-- what has been met in the rows before i and, of row i, the places before p -/
def metQ (c : Nat → Int) (m i p j : Nat) : Prop := ∃ a, ∃ b, b < 12 ∧ (a < i ∨ a = i ∧ b < p) ∧ m.testBit a = true ∧ c (a * 12 + b) = j
theorem h_meet (h : HC σ (zb o + 29) f g t c n kp) (m : Nat) (hm : m < 2 ^ 30) : zSpec mi_History_meetContents 2 o [.ref (zb o + 29), .int (iI m)] σ (fun v s => v = none ∧ (∀ j, j < 360 → iv s (zb o + 64) j = metI c m j) ∧ zF σ s (zb o + 64) 1) := by
  obtain ⟨h1, h2, h3, h4, h5, h6, h7, h8⟩ := h
  refine z_spec (by decide +kernel) (Nat.le_of_ble_eq_true rfl) rfl (fun k hs hR hE => ?_)
  refine jw_aload_n (pc' := 1) jd_History_meetContents_0 rfl rfl rfl ?_
  refine jw_get (pc' := 4) (kf := 7) jc_History (by decide) jq_96 jd_History_meetContents_1 (mc_History _) rfl rfl ?_
  refine zx_iconst (pc' := 5) (n := 0) jd_History_meetContents_4 rfl ?_
  refine zx_callS (pc' := 8) hR (z_fill (n := 360) (fun s => ml_History_metContents s) (by omega) (by omega)) jm_Arrays_fill jq_716 jd_History_meetContents_5 rfl rfl (Nat.le_of_ble_eq_true rfl) (by omega) (by decide) rfl (fun v9 s0 q9 => ?_)
  obtain ⟨rfl, f0, F0⟩ := q9
  refine zx_iconst (pc' := 9) (n := 0) jd_History_meetContents_8 rfl ?_
  refine jw_istore_n (pc' := 10) (lc' := [(0, _), (1, _), (2, _)]) jd_History_meetContents_9 rfl (Nat.le_of_ble_eq_true rfl) ⟨rfl, rfl, rfl, trivial⟩ rfl ?_
  have loop : ∀ (d i : Nat) (s : zS), i + d = 30 → (∀ j, j < 360 → (metQ c m i 0 j ∧ iv s (zb o + 64) j = 1 ∨ ¬ metQ c m i 0 j ∧ iv s (zb o + 64) j = 0)) → zF σ s (zb o + 64) 1 → jw_X mi_History_meetContents o k 0 0 10 [(0, .ref (zb o + 29)), (1, .int (iI m)), (2, .int (iI i))] [] (mm o s) hs := by
    intro d
    induction d with
    | zero =>
      intro i s hi hq hF
      refine jw_iload_n (pc' := 11) jd_History_meetContents_10 rfl rfl rfl ?_
      refine zx_bipush (pc' := 13) (n := 30) jd_History_meetContents_11 (by decide +kernel) rfl ?_
      refine zx_icmp_ge (tgt := 80) (pc' := 16) (by first | exact rg_iv _ _ _ | omega) (by first | exact rg_iv _ _ _ | omega) jd_History_meetContents_13 (by decide) rfl (fun q => ?_) (fun q => ?_)
      rotate_left
      · exfalso; omega
      refine zx_vret hE jd_History_meetContents_80 rfl ?_
      refine ⟨rfl, fun j hj => ?_, hF⟩
      have e : metP c m j ↔ metQ c m i 0 j := by
        constructor
        · rintro ⟨a, g1, g2, b, g3, g4⟩
          exact ⟨a, b, g3, Or.inl (by omega), g2, g4⟩
        · rintro ⟨a, b, g3, g1, g2, g4⟩
          exact ⟨a, by omega, g2, b, g3, g4⟩
      unfold metI
      rcases hq j hj with ⟨g1, g2⟩ | ⟨g1, g2⟩
      · rw [if_pos (e.mpr g1)]; exact g2
      · rw [if_neg (fun z => g1 (e.mp z))]; exact g2
    | succ d ih =>
      intro i s hi hq hF
      have inner : ∀ (e p : Nat) (s : zS), p + e = 12 → (∀ j, j < 360 → (metQ c m i p j ∧ iv s (zb o + 64) j = 1 ∨ ¬ metQ c m i p j ∧ iv s (zb o + 64) j = 0)) → zF σ s (zb o + 64) 1 → jw_X mi_History_meetContents o k 0 0 18 [(0, .ref (zb o + 29)), (1, .int (iI m)), (2, .int (iI i)), (3, .int (iI p))] [] (mm o s) hs := by
        intro e
        induction e with
        | zero =>
          intro p s hp hq hF
          refine jw_iload_n (pc' := 19) jd_History_meetContents_18 rfl rfl rfl ?_
          refine zx_bipush (pc' := 21) (n := 12) jd_History_meetContents_19 (by decide +kernel) rfl ?_
          refine zx_icmp_ge (tgt := 74) (pc' := 24) (by first | exact rg_iv _ _ _ | omega) (by first | exact rg_iv _ _ _ | omega) jd_History_meetContents_21 (by decide) rfl (fun q2 => ?_) (fun q2 => ?_)
          rotate_left
          · exfalso; omega
          refine zx_iinc (pc' := 77) (lc' := [(0, _), (1, _), (2, _)]) jd_History_meetContents_74 rfl (Nat.le_of_ble_eq_true rfl) ⟨rfl, rfl, rfl, trivial⟩ rfl ?_
          refine jw_goto (tgt := 10) jd_History_meetContents_77 (by decide) ?_
          refine ih (i + 1) s (by omega) (fun j hj => ?_) hF
          have e : metQ c m (i + 1) 0 j ↔ metQ c m i p j := by
            constructor
            · rintro ⟨a, b, g3, g1, g2⟩
              exact ⟨a, b, g3, by omega, g2⟩
            · rintro ⟨a, b, g3, g1, g2⟩
              exact ⟨a, b, g3, by omega, g2⟩
          rw [e]; exact hq j hj
        | succ e jh =>
          intro p s hp hq hF
          have g4 : iv s (zb o + 63) (i * 12 + p) = c (i * 12 + p) := (iv_cell (hF _ (by omega)) _).trans (h4 (i * 12 + p) (by omega))
          refine jw_iload_n (pc' := 19) jd_History_meetContents_18 rfl rfl rfl ?_
          refine zx_bipush (pc' := 21) (n := 12) jd_History_meetContents_19 (by decide +kernel) rfl ?_
          refine zx_icmp_ge (tgt := 74) (pc' := 24) (by first | exact rg_iv _ _ _ | omega) (by first | exact rg_iv _ _ _ | omega) jd_History_meetContents_21 (by decide) rfl (fun q2 => ?_) (fun q2 => ?_)
          · exfalso; omega
          refine jw_iload_n (pc' := 25) jd_History_meetContents_24 rfl rfl rfl ?_
          refine jw_iload_n (pc' := 26) jd_History_meetContents_25 rfl rfl rfl ?_
          refine zx_callS0 (pc' := 29) hR (h_isIn i m (by omega) hm) jm_History_isIn jq_528 jd_History_meetContents_26 rfl rfl (Nat.le_of_ble_eq_true rfl) (by omega) (by decide) rfl rfl ?_
          by_cases eb : m.testBit i = true
          · rw [if_pos eb]
            refine zx_if_eq (tgt := 74) (pc' := 32) (by first | exact rg_iv _ _ _ | omega) jd_History_meetContents_29 (by decide) rfl (fun q3 => ?_) (fun q3 => ?_)
            · exfalso; omega
            have next : ∀ s2 : zS, (∀ j, j < 360 → iv s2 (zb o + 64) j = if (j : Int) = c (i * 12 + p) then 1 else iv s (zb o + 64) j) → ∀ j, j < 360 → (metQ c m i (p + 1) j ∧ iv s2 (zb o + 64) j = 1 ∨ ¬ metQ c m i (p + 1) j ∧ iv s2 (zb o + 64) j = 0) := by
              intro s2 hs2 j hj
              rw [hs2 j hj]
              by_cases ej : (j : Int) = c (i * 12 + p)
              · rw [if_pos ej]
                exact Or.inl ⟨⟨i, p, by omega, Or.inr ⟨rfl, by omega⟩, eb, ej.symm⟩, rfl⟩
              · rw [if_neg ej]
                have e2 : metQ c m i (p + 1) j ↔ metQ c m i p j := by
                  constructor
                  · rintro ⟨a, b, g3, g1, g2, g5⟩
                    refine ⟨a, b, g3, ?_, g2, g5⟩
                    by_cases z : a = i ∧ b = p
                    · obtain ⟨z1, z2⟩ := z
                      rw [z1, z2] at g5
                      exact absurd g5.symm ej
                    · omega
                  · rintro ⟨a, b, g3, g1, g2⟩
                    exact ⟨a, b, g3, by omega, g2⟩
                rw [e2]; exact hq j hj
            refine jw_aload_n (pc' := 33) jd_History_meetContents_32 rfl rfl rfl ?_
            refine jw_get (pc' := 36) (kf := 6) jc_History (by decide) jq_95 jd_History_meetContents_33 (mc_History _) rfl rfl ?_
            refine jw_iload_n (pc' := 37) jd_History_meetContents_36 rfl rfl rfl ?_
            refine zx_bipush (pc' := 39) (n := 12) jd_History_meetContents_37 (by decide +kernel) rfl ?_
            refine zx_imul (pc' := 40) jd_History_meetContents_39 rfl ?_
            refine jw_iload_n (pc' := 41) jd_History_meetContents_40 rfl rfl rfl ?_
            refine zx_iadd (pc' := 42) jd_History_meetContents_41 rfl ?_
            refine zx_iald (pc' := 43) (j := i * 12 + p) jd_History_meetContents_42 (ml_History_contentNumbers _) (by omega) (by omega) (Nat.le_of_ble_eq_true rfl) rfl ?_
            refine jw_istore (pc' := 45) (lc' := [(0, _), (1, _), (2, _), (3, _), (4, _)]) jd_History_meetContents_43 (Nat.le_of_ble_eq_true rfl) ⟨rfl, rfl, rfl, rfl, rfl, trivial⟩ rfl ?_
            refine jw_iload (pc' := 47) jd_History_meetContents_45 rfl rfl ?_
            refine zx_if_lt (tgt := 68) (pc' := 50) (by first | exact rg_iv _ _ _ | omega) jd_History_meetContents_47 (by decide) rfl (fun q4 => ?_) (fun q4 => ?_)
            · refine zx_iinc (pc' := 71) (lc' := [(0, _), (1, _), (2, _), (3, _)]) jd_History_meetContents_68 rfl (Nat.le_of_ble_eq_true rfl) ⟨rfl, rfl, rfl, rfl, trivial⟩ rfl ?_
              refine jw_goto (tgt := 18) jd_History_meetContents_71 (by decide) ?_
              rw [g4] at q4
              exact jh (p + 1) s (by omega) (next s (fun j hj => by rw [if_neg (by omega)])) hF
            refine jw_iload (pc' := 52) jd_History_meetContents_50 rfl rfl ?_
            refine jw_aload_n (pc' := 53) jd_History_meetContents_52 rfl rfl rfl ?_
            refine jw_get (pc' := 56) (kf := 7) jc_History (by decide) jq_96 jd_History_meetContents_53 (mc_History _) rfl rfl ?_
            refine zx_alen (pc' := 57) (i := 0) jd_History_meetContents_56 (ml_History_metContents _) rfl rfl rfl ?_
            refine zx_icmp_ge (tgt := 68) (pc' := 60) (by first | exact rg_iv _ _ _ | omega) (by first | exact rg_iv _ _ _ | omega) jd_History_meetContents_57 (by decide) rfl (fun q5 => ?_) (fun q5 => ?_)
            · refine zx_iinc (pc' := 71) (lc' := [(0, _), (1, _), (2, _), (3, _)]) jd_History_meetContents_68 rfl (Nat.le_of_ble_eq_true rfl) ⟨rfl, rfl, rfl, rfl, trivial⟩ rfl ?_
              refine jw_goto (tgt := 18) jd_History_meetContents_71 (by decide) ?_
              rw [g4] at q5
              exact jh (p + 1) s (by omega) (next s (fun j hj => by rw [if_neg (by omega)])) hF
            · rw [g4] at q4 q5 ⊢
              obtain ⟨x, hx⟩ : ∃ n : Nat, c (i * 12 + p) = n := ⟨(c (i * 12 + p)).toNat, by omega⟩
              rw [hx]
              refine jw_aload_n (pc' := 61) jd_History_meetContents_60 rfl rfl rfl ?_
              refine jw_get (pc' := 64) (kf := 7) jc_History (by decide) jq_96 jd_History_meetContents_61 (mc_History _) rfl rfl ?_
              refine jw_iload (pc' := 66) jd_History_meetContents_64 rfl rfl ?_
              refine zx_iconst (pc' := 67) (n := 1) jd_History_meetContents_66 rfl ?_
              refine zx_iast (pc' := 68) jd_History_meetContents_67 (ml_History_metContents _) rfl (by omega) (Nat.le_of_ble_eq_true rfl) rfl ?_
              refine zx_iinc (pc' := 71) (lc' := [(0, _), (1, _), (2, _), (3, _)]) jd_History_meetContents_68 rfl (Nat.le_of_ble_eq_true rfl) ⟨rfl, rfl, rfl, rfl, trivial⟩ rfl ?_
              refine jw_goto (tgt := 18) jd_History_meetContents_71 (by decide) ?_
              refine jh (p + 1) _ (by omega) (next _ (fun j hj => ?_)) (hF.si (by omega))
              rw [iv_si (by omega)]
              by_cases ej : j = x
              · rw [if_pos ⟨rfl, ej⟩, if_pos (by omega)]
              · rw [if_neg (fun z => ej z.2), if_neg (by omega)]
          · rw [if_neg eb]
            refine zx_if_eq (tgt := 74) (pc' := 32) (by first | exact rg_iv _ _ _ | omega) jd_History_meetContents_29 (by decide) rfl (fun q3 => ?_) (fun q3 => ?_)
            rotate_left
            · exfalso; omega
            refine zx_iinc (pc' := 77) (lc' := [(0, _), (1, _), (2, _)]) jd_History_meetContents_74 rfl (Nat.le_of_ble_eq_true rfl) ⟨rfl, rfl, rfl, trivial⟩ rfl ?_
            refine jw_goto (tgt := 10) jd_History_meetContents_77 (by decide) ?_
            refine ih (i + 1) s (by omega) (fun j hj => ?_) hF
            have e : metQ c m (i + 1) 0 j ↔ metQ c m i p j := by
              constructor
              · rintro ⟨a, b, g3, g1, g2, g5⟩
                refine ⟨a, b, g3, Or.inl ?_, g2, g5⟩
                by_cases z : a = i
                · rw [z] at g2; exact absurd g2 eb
                · omega
              · rintro ⟨a, b, g3, g1, g2⟩
                exact ⟨a, b, g3, by omega, g2⟩
            rw [e]; exact hq j hj
      refine jw_iload_n (pc' := 11) jd_History_meetContents_10 rfl rfl rfl ?_
      refine zx_bipush (pc' := 13) (n := 30) jd_History_meetContents_11 (by decide +kernel) rfl ?_
      refine zx_icmp_ge (tgt := 80) (pc' := 16) (by first | exact rg_iv _ _ _ | omega) (by first | exact rg_iv _ _ _ | omega) jd_History_meetContents_13 (by decide) rfl (fun q => ?_) (fun q => ?_)
      · exfalso; omega
      refine zx_iconst (pc' := 17) (n := 0) jd_History_meetContents_16 rfl ?_
      refine jw_istore_n (pc' := 18) (lc' := [(0, _), (1, _), (2, _), (3, _)]) jd_History_meetContents_17 rfl (Nat.le_of_ble_eq_true rfl) ⟨rfl, rfl, rfl, rfl, trivial⟩ rfl ?_
      exact inner 12 0 s (by omega) hq hF
  refine loop 30 0 s0 (by omega) (fun j hj => Or.inr ⟨?_, f0 j hj⟩) F0
  rintro ⟨a, b, g3, g1, g2⟩
  omega
theorem h_conts (h : HC σ (zb o + 29) f g t c n kp) (m : Nat) (hm : m < 2 ^ 30) : zSpec mi_History_countContents 3 o [.ref (zb o + 29), .int (iI m)] σ (fun v s => v = some (.int (iI (sm (metI c m) 360))) ∧ zF σ s (zb o + 64) 1) := by
  refine z_spec (by decide +kernel) (Nat.le_of_ble_eq_true rfl) rfl (fun k hs hR hE => ?_)
  refine jw_aload_n (pc' := 1) jd_History_countContents_0 rfl rfl rfl ?_
  refine jw_iload_n (pc' := 2) jd_History_countContents_1 rfl rfl rfl ?_
  refine zx_callV (pc' := 5) hR (h_meet h m hm) jm_History_meetContents jq_712 jc_History jd_History_countContents_2 (mc_History _) rfl rfl (Nat.le_of_ble_eq_true rfl) (by omega) (by decide) rfl (fun v9 s q9 => ?_)
  obtain ⟨rfl, g1, F⟩ := q9
  refine zx_iconst (pc' := 6) (n := 0) jd_History_countContents_5 rfl ?_
  refine jw_istore_n (pc' := 7) (lc' := [(0, _), (2, _)]) jd_History_countContents_6 rfl (Nat.le_of_ble_eq_true rfl) ⟨rfl, rfl, trivial⟩ rfl ?_
  refine zx_iconst (pc' := 8) (n := 0) jd_History_countContents_7 rfl ?_
  refine jw_istore_n (pc' := 9) (lc' := [(0, _), (2, _), (3, _)]) jd_History_countContents_8 rfl (Nat.le_of_ble_eq_true rfl) ⟨rfl, rfl, rfl, trivial⟩ rfl ?_
  have loop : ∀ (d i : Nat), i + d = 360 → jw_X mi_History_countContents o k 0 0 9 [(0, .ref (zb o + 29)), (2, .int (iI (sm (metI c m) i))), (3, .int (iI i))] [] (mm o s) hs := by
    intro d
    induction d with
    | zero =>
      intro i hi
      refine jw_iload_n (pc' := 10) jd_History_countContents_9 rfl rfl rfl ?_
      refine jw_aload_n (pc' := 11) jd_History_countContents_10 rfl rfl rfl ?_
      refine jw_get (pc' := 14) (kf := 7) jc_History (by decide) jq_96 jd_History_countContents_11 (mc_History _) rfl rfl ?_
      refine zx_alen (pc' := 15) (i := 0) jd_History_countContents_14 (ml_History_metContents _) rfl rfl rfl ?_
      refine zx_icmp_ge (tgt := 33) (pc' := 18) (by first | exact rg_iv _ _ _ | omega) (by first | exact rg_iv _ _ _ | omega) jd_History_countContents_15 (by decide) rfl (fun q => ?_) (fun q => ?_)
      rotate_left
      · exfalso; omega
      refine jw_iload_n (pc' := 34) jd_History_countContents_33 rfl rfl rfl ?_
      refine zx_iret hE jd_History_countContents_34 rfl ?_
      rw [show i = 360 by omega]
      exact ⟨rfl, F⟩
    | succ d ih =>
      intro i hi
      have e := g1 i (by omega)
      have ih1 := ih (i + 1) (by omega)
      unfold sm at ih1
      refine jw_iload_n (pc' := 10) jd_History_countContents_9 rfl rfl rfl ?_
      refine jw_aload_n (pc' := 11) jd_History_countContents_10 rfl rfl rfl ?_
      refine jw_get (pc' := 14) (kf := 7) jc_History (by decide) jq_96 jd_History_countContents_11 (mc_History _) rfl rfl ?_
      refine zx_alen (pc' := 15) (i := 0) jd_History_countContents_14 (ml_History_metContents _) rfl rfl rfl ?_
      refine zx_icmp_ge (tgt := 33) (pc' := 18) (by first | exact rg_iv _ _ _ | omega) (by first | exact rg_iv _ _ _ | omega) jd_History_countContents_15 (by decide) rfl (fun q => ?_) (fun q => ?_)
      · exfalso; omega
      refine jw_iload_n (pc' := 19) jd_History_countContents_18 rfl rfl rfl ?_
      refine jw_aload_n (pc' := 20) jd_History_countContents_19 rfl rfl rfl ?_
      refine jw_get (pc' := 23) (kf := 7) jc_History (by decide) jq_96 jd_History_countContents_20 (mc_History _) rfl rfl ?_
      refine jw_iload_n (pc' := 24) jd_History_countContents_23 rfl rfl rfl ?_
      refine zx_iald (pc' := 25) jd_History_countContents_24 (ml_History_metContents _) rfl (by omega) (Nat.le_of_ble_eq_true rfl) rfl ?_
      refine zx_iadd (pc' := 26) jd_History_countContents_25 rfl ?_
      refine jw_istore_n (pc' := 27) (lc' := [(0, _), (2, _), (3, _)]) jd_History_countContents_26 rfl (Nat.le_of_ble_eq_true rfl) ⟨rfl, rfl, rfl, trivial⟩ rfl ?_
      refine zx_iinc (pc' := 30) (lc' := [(0, _), (2, _), (3, _)]) jd_History_countContents_27 rfl (Nat.le_of_ble_eq_true rfl) ⟨rfl, rfl, rfl, trivial⟩ rfl ?_
      refine jw_goto (tgt := 9) jd_History_countContents_30 (by decide) ?_
      rw [e]
      exact ih1
  exact loop 360 0 (by omega)
theorem HC.fr {s : zS} {h b m : Nat} (x : HC σ h f g t c n kp) (F : zF σ s b m) (hd : (b + m ≤ h ∨ h + 36 ≤ b) ∨ h + 35 ≤ b) : HC s h f g t c n kp := by
  obtain ⟨h1, h2, h3, h4, h5, h6, h7⟩ := x
  exact ⟨fun i hi => (iv_cell (F _ (by omega)) _).trans (h1 i hi), fun i hi => (iv_cell (F _ (by omega)) _).trans (h2 i hi), fun i hi => (iv_cell (F _ (by omega)) _).trans (h3 i hi), fun i hi => (iv_cell (F _ (by omega)) _).trans (h4 i hi), (iv_cell (F _ (by omega)) _).trans h5, (iv_cell (F _ (by omega)) _).trans h6, h7⟩
theorem h_objects (h : HC σ (zb o + 29) f g t c n kp) (m : Nat) (hm : m < 2 ^ 30) : zSpec mi_History_countObjects 4 o [.ref (zb o + 29), .int (iI m)] σ (fun v s => v = some (.int (iI (obF t c m))) ∧ zF σ s (zb o + 64) 1) := by
  refine z_spec (by decide +kernel) (Nat.le_of_ble_eq_true rfl) rfl (fun k hs hR hE => ?_)
  refine jw_iload_n (pc' := 1) jd_History_countObjects_0 rfl rfl rfl ?_
  refine zx_callS0 (pc' := 4) hR (h_bits m hm) jm_Integer_bitCount jq_698 jd_History_countObjects_1 rfl rfl (Nat.le_of_ble_eq_true rfl) (by omega) (by decide) rfl rfl ?_
  refine jw_aload_n (pc' := 5) jd_History_countObjects_4 rfl rfl rfl ?_
  refine jw_iload_n (pc' := 6) jd_History_countObjects_5 rfl rfl rfl ?_
  refine zx_callV0 (pc' := 9) hR (h_trees h m hm) jm_History_countTrees jq_704 jc_History jd_History_countObjects_6 (mc_History _) rfl rfl (Nat.le_of_ble_eq_true rfl) (by omega) (by decide) rfl rfl ?_
  refine zx_iadd (pc' := 10) jd_History_countObjects_9 rfl ?_
  refine jw_aload_n (pc' := 11) jd_History_countObjects_10 rfl rfl rfl ?_
  refine jw_iload_n (pc' := 12) jd_History_countObjects_11 rfl rfl rfl ?_
  refine zx_callV (pc' := 15) hR (h_conts h m hm) jm_History_countContents jq_708 jc_History jd_History_countObjects_12 (mc_History _) rfl rfl (Nat.le_of_ble_eq_true rfl) (by omega) (by decide) rfl (fun v9 s q9 => ?_)
  obtain ⟨rfl, F⟩ := q9
  refine zx_iadd (pc' := 16) jd_History_countObjects_15 rfl ?_
  refine zx_iret hE jd_History_countObjects_16 rfl ?_
  exact ⟨rfl, F⟩
theorem h_keepOnly (h : HC σ (zb o + 29) f g t c n kp) (m : Nat) (hm : m < 2 ^ 30) : zSpec mi_History_keepOnly 0 o [.ref (zb o + 29), .int (iI m)] σ (fun v s => v = none ∧ HC s (zb o + 29) f g t c n (kp &&& m) ∧ (∀ q, q ≠ zb o + 29 → s q = σ q)) := by
  obtain ⟨h1, h2, h3, h4, h5, h6, h7, h8⟩ := h
  have hlt : kp &&& m < 2 ^ 30 := Nat.and_lt_two_pow _ hm
  have e30 := p30
  refine z_spec (by decide +kernel) (Nat.le_of_ble_eq_true rfl) rfl (fun k hs hR hE => ?_)
  refine jw_aload_n (pc' := 1) jd_History_keepOnly_0 rfl rfl rfl ?_
  refine jw_dup (pc' := 2) jd_History_keepOnly_1 rfl rfl ?_
  refine zx_getI (pc' := 5) (kf := 9) jc_History (by decide) jq_98 jd_History_keepOnly_2 (mc_History _) rfl rfl ?_
  refine jw_sub (lc' := [(1, _)]) ⟨rfl, trivial⟩ ?_
  rw [h6]
  refine jw_iload_n (pc' := 6) jd_History_keepOnly_5 rfl rfl rfl ?_
  refine zx_iand (pc' := 7) jd_History_keepOnly_6 rfl ?_
  refine zx_putI (pc' := 10) (kf := 9) jc_History (by decide) jq_98 jd_History_keepOnly_7 rfl (by decide +kernel) (mc_History _) rfl rfl ?_
  refine zx_vret hE jd_History_keepOnly_10 rfl ?_
  refine ⟨rfl, ⟨fun i hi => ?_, fun i hi => ?_, fun i hi => ?_, fun i hi => ?_, ?_, ?_, h7, hlt⟩, fun q hq => si_ne hq⟩
  · rw [iv_cell (si_ne (by omega))]; exact h1 i hi
  · rw [iv_cell (si_ne (by omega))]; exact h2 i hi
  · rw [iv_cell (si_ne (by omega))]; exact h3 i hi
  · rw [iv_cell (si_ne (by omega))]; exact h4 i hi
  · rw [iv_si (by omega), if_neg (by omega)]; exact h5
  · rw [iv_si (by omega), if_pos ⟨rfl, rfl⟩]
end
end
end
section
theorem jd_History_numberOfTree_0 : decode mi_History_numberOfTree.2.1 0 = .ok (.iconst 0, 1) := by decide +kernel
theorem jd_History_numberOfTree_1 : decode mi_History_numberOfTree.2.1 1 = .ok (.istore_n 2, 1) := by decide +kernel
theorem jd_History_numberOfTree_2 : decode mi_History_numberOfTree.2.1 2 = .ok (.iload_n 2, 1) := by decide +kernel
theorem jd_History_numberOfTree_3 : decode mi_History_numberOfTree.2.1 3 = .ok (.iload_n 1, 1) := by decide +kernel
theorem jd_History_numberOfTree_4 : decode mi_History_numberOfTree.2.1 4 = .ok (.if_icmp .ge 27, 3) := by decide +kernel
theorem jd_History_numberOfTree_7 : decode mi_History_numberOfTree.2.1 7 = .ok (.aload_n 0, 1) := by decide +kernel
theorem jd_History_numberOfTree_8 : decode mi_History_numberOfTree.2.1 8 = .ok (.iload_n 2, 1) := by decide +kernel
theorem jd_History_numberOfTree_9 : decode mi_History_numberOfTree.2.1 9 = .ok (.invokevirtual 88, 3) := by decide +kernel
theorem jd_History_numberOfTree_12 : decode mi_History_numberOfTree.2.1 12 = .ok (.aload_n 0, 1) := by decide +kernel
theorem jd_History_numberOfTree_13 : decode mi_History_numberOfTree.2.1 13 = .ok (.iload_n 1, 1) := by decide +kernel
theorem jd_History_numberOfTree_14 : decode mi_History_numberOfTree.2.1 14 = .ok (.invokevirtual 88, 3) := by decide +kernel
theorem jd_History_numberOfTree_17 : decode mi_History_numberOfTree.2.1 17 = .ok (.invokevirtual 108, 3) := by decide +kernel
theorem jd_History_numberOfTree_20 : decode mi_History_numberOfTree.2.1 20 = .ok (.ifCond .eq 5, 3) := by decide +kernel
theorem jd_History_numberOfTree_23 : decode mi_History_numberOfTree.2.1 23 = .ok (.iload_n 2, 1) := by decide +kernel
theorem jd_History_numberOfTree_24 : decode mi_History_numberOfTree.2.1 24 = .ok (.ireturn, 1) := by decide +kernel
theorem jd_History_numberOfTree_25 : decode mi_History_numberOfTree.2.1 25 = .ok (.iinc 2 1, 3) := by decide +kernel
theorem jd_History_numberOfTree_28 : decode mi_History_numberOfTree.2.1 28 = .ok (.goto (-26), 3) := by decide +kernel
theorem jd_History_numberOfTree_31 : decode mi_History_numberOfTree.2.1 31 = .ok (.iload_n 1, 1) := by decide +kernel
theorem jd_History_numberOfTree_32 : decode mi_History_numberOfTree.2.1 32 = .ok (.ireturn, 1) := by decide +kernel
theorem jd_History_numberOfContent_0 : decode mi_History_numberOfContent.2.1 0 = .ok (.aload_n 0, 1) := by decide +kernel
theorem jd_History_numberOfContent_1 : decode mi_History_numberOfContent.2.1 1 = .ok (.iload_n 1, 1) := by decide +kernel
theorem jd_History_numberOfContent_2 : decode mi_History_numberOfContent.2.1 2 = .ok (.invokevirtual 88, 3) := by decide +kernel
theorem jd_History_numberOfContent_5 : decode mi_History_numberOfContent.2.1 5 = .ok (.iload_n 2, 1) := by decide +kernel
theorem jd_History_numberOfContent_6 : decode mi_History_numberOfContent.2.1 6 = .ok (.invokevirtual 92, 3) := by decide +kernel
theorem jd_History_numberOfContent_9 : decode mi_History_numberOfContent.2.1 9 = .ok (.astore_n 3, 1) := by decide +kernel
theorem jd_History_numberOfContent_10 : decode mi_History_numberOfContent.2.1 10 = .ok (.aload_n 3, 1) := by decide +kernel
theorem jd_History_numberOfContent_11 : decode mi_History_numberOfContent.2.1 11 = .ok (.invokevirtual 112, 3) := by decide +kernel
theorem jd_History_numberOfContent_14 : decode mi_History_numberOfContent.2.1 14 = .ok (.ifCond .ne 5, 3) := by decide +kernel
theorem jd_History_numberOfContent_17 : decode mi_History_numberOfContent.2.1 17 = .ok (.iconst (-1), 1) := by decide +kernel
theorem jd_History_numberOfContent_18 : decode mi_History_numberOfContent.2.1 18 = .ok (.ireturn, 1) := by decide +kernel
theorem jd_History_numberOfContent_19 : decode mi_History_numberOfContent.2.1 19 = .ok (.iload_n 1, 1) := by decide +kernel
theorem jd_History_numberOfContent_20 : decode mi_History_numberOfContent.2.1 20 = .ok (.bipush 12, 2) := by decide +kernel
theorem jd_History_numberOfContent_22 : decode mi_History_numberOfContent.2.1 22 = .ok (.imul, 1) := by decide +kernel
theorem jd_History_numberOfContent_23 : decode mi_History_numberOfContent.2.1 23 = .ok (.iload_n 2, 1) := by decide +kernel
theorem jd_History_numberOfContent_24 : decode mi_History_numberOfContent.2.1 24 = .ok (.iadd, 1) := by decide +kernel
theorem jd_History_numberOfContent_25 : decode mi_History_numberOfContent.2.1 25 = .ok (.istore 4, 2) := by decide +kernel
theorem jd_History_numberOfContent_27 : decode mi_History_numberOfContent.2.1 27 = .ok (.iconst 0, 1) := by decide +kernel
theorem jd_History_numberOfContent_28 : decode mi_History_numberOfContent.2.1 28 = .ok (.istore 5, 2) := by decide +kernel
theorem jd_History_numberOfContent_30 : decode mi_History_numberOfContent.2.1 30 = .ok (.iload 5, 2) := by decide +kernel
theorem jd_History_numberOfContent_32 : decode mi_History_numberOfContent.2.1 32 = .ok (.iload 4, 2) := by decide +kernel
theorem jd_History_numberOfContent_34 : decode mi_History_numberOfContent.2.1 34 = .ok (.if_icmp .ge 36, 3) := by decide +kernel
theorem jd_History_numberOfContent_37 : decode mi_History_numberOfContent.2.1 37 = .ok (.aload_n 3, 1) := by decide +kernel
theorem jd_History_numberOfContent_38 : decode mi_History_numberOfContent.2.1 38 = .ok (.aload_n 0, 1) := by decide +kernel
theorem jd_History_numberOfContent_39 : decode mi_History_numberOfContent.2.1 39 = .ok (.iload 5, 2) := by decide +kernel
theorem jd_History_numberOfContent_41 : decode mi_History_numberOfContent.2.1 41 = .ok (.bipush 12, 2) := by decide +kernel
theorem jd_History_numberOfContent_43 : decode mi_History_numberOfContent.2.1 43 = .ok (.idiv, 1) := by decide +kernel
theorem jd_History_numberOfContent_44 : decode mi_History_numberOfContent.2.1 44 = .ok (.invokevirtual 88, 3) := by decide +kernel
theorem jd_History_numberOfContent_47 : decode mi_History_numberOfContent.2.1 47 = .ok (.iload 5, 2) := by decide +kernel
theorem jd_History_numberOfContent_49 : decode mi_History_numberOfContent.2.1 49 = .ok (.bipush 12, 2) := by decide +kernel
theorem jd_History_numberOfContent_51 : decode mi_History_numberOfContent.2.1 51 = .ok (.irem, 1) := by decide +kernel
theorem jd_History_numberOfContent_52 : decode mi_History_numberOfContent.2.1 52 = .ok (.invokevirtual 92, 3) := by decide +kernel
theorem jd_History_numberOfContent_55 : decode mi_History_numberOfContent.2.1 55 = .ok (.invokevirtual 116, 3) := by decide +kernel
theorem jd_History_numberOfContent_58 : decode mi_History_numberOfContent.2.1 58 = .ok (.ifCond .eq 6, 3) := by decide +kernel
theorem jd_History_numberOfContent_61 : decode mi_History_numberOfContent.2.1 61 = .ok (.iload 5, 2) := by decide +kernel
theorem jd_History_numberOfContent_63 : decode mi_History_numberOfContent.2.1 63 = .ok (.ireturn, 1) := by decide +kernel
theorem jd_History_numberOfContent_64 : decode mi_History_numberOfContent.2.1 64 = .ok (.iinc 5 1, 3) := by decide +kernel
theorem jd_History_numberOfContent_67 : decode mi_History_numberOfContent.2.1 67 = .ok (.goto (-37), 3) := by decide +kernel
theorem jd_History_numberOfContent_70 : decode mi_History_numberOfContent.2.1 70 = .ok (.iload 4, 2) := by decide +kernel
theorem jd_History_numberOfContent_72 : decode mi_History_numberOfContent.2.1 72 = .ok (.ireturn, 1) := by decide +kernel
theorem jd_History_add_0 : decode mi_History_add.2.1 0 = .ok (.aload_n 0, 1) := by decide +kernel
theorem jd_History_add_1 : decode mi_History_add.2.1 1 = .ok (.getfield 41, 3) := by decide +kernel
theorem jd_History_add_4 : decode mi_History_add.2.1 4 = .ok (.bipush 30, 2) := by decide +kernel
theorem jd_History_add_6 : decode mi_History_add.2.1 6 = .ok (.if_icmp .lt 5, 3) := by decide +kernel
theorem jd_History_add_9 : decode mi_History_add.2.1 9 = .ok (.iconst (-1), 1) := by decide +kernel
theorem jd_History_add_10 : decode mi_History_add.2.1 10 = .ok (.ireturn, 1) := by decide +kernel
theorem jd_History_add_11 : decode mi_History_add.2.1 11 = .ok (.aload_n 0, 1) := by decide +kernel
theorem jd_History_add_12 : decode mi_History_add.2.1 12 = .ok (.getfield 41, 3) := by decide +kernel
theorem jd_History_add_15 : decode mi_History_add.2.1 15 = .ok (.istore 5, 2) := by decide +kernel
theorem jd_History_add_17 : decode mi_History_add.2.1 17 = .ok (.aload_n 0, 1) := by decide +kernel
theorem jd_History_add_18 : decode mi_History_add.2.1 18 = .ok (.getfield 11, 3) := by decide +kernel
theorem jd_History_add_21 : decode mi_History_add.2.1 21 = .ok (.iload 5, 2) := by decide +kernel
theorem jd_History_add_23 : decode mi_History_add.2.1 23 = .ok (.aaload, 1) := by decide +kernel
theorem jd_History_add_24 : decode mi_History_add.2.1 24 = .ok (.aload_n 1, 1) := by decide +kernel
theorem jd_History_add_25 : decode mi_History_add.2.1 25 = .ok (.invokevirtual 56, 3) := by decide +kernel
theorem jd_History_add_28 : decode mi_History_add.2.1 28 = .ok (.aload_n 0, 1) := by decide +kernel
theorem jd_History_add_29 : decode mi_History_add.2.1 29 = .ok (.getfield 22, 3) := by decide +kernel
theorem jd_History_add_32 : decode mi_History_add.2.1 32 = .ok (.iload 5, 2) := by decide +kernel
theorem jd_History_add_34 : decode mi_History_add.2.1 34 = .ok (.iload_n 2, 1) := by decide +kernel
theorem jd_History_add_35 : decode mi_History_add.2.1 35 = .ok (.iastore, 1) := by decide +kernel
theorem jd_History_add_36 : decode mi_History_add.2.1 36 = .ok (.aload_n 0, 1) := by decide +kernel
theorem jd_History_add_37 : decode mi_History_add.2.1 37 = .ok (.getfield 26, 3) := by decide +kernel
theorem jd_History_add_40 : decode mi_History_add.2.1 40 = .ok (.iload 5, 2) := by decide +kernel
theorem jd_History_add_42 : decode mi_History_add.2.1 42 = .ok (.iload_n 3, 1) := by decide +kernel
theorem jd_History_add_43 : decode mi_History_add.2.1 43 = .ok (.iastore, 1) := by decide +kernel
theorem jd_History_add_44 : decode mi_History_add.2.1 44 = .ok (.aload_n 0, 1) := by decide +kernel
theorem jd_History_add_45 : decode mi_History_add.2.1 45 = .ok (.getfield 29, 3) := by decide +kernel
theorem jd_History_add_48 : decode mi_History_add.2.1 48 = .ok (.iload 5, 2) := by decide +kernel
theorem jd_History_add_50 : decode mi_History_add.2.1 50 = .ok (.iload 4, 2) := by decide +kernel
theorem jd_History_add_52 : decode mi_History_add.2.1 52 = .ok (.iastore, 1) := by decide +kernel
theorem jd_History_add_53 : decode mi_History_add.2.1 53 = .ok (.aload_n 0, 1) := by decide +kernel
theorem jd_History_add_54 : decode mi_History_add.2.1 54 = .ok (.getfield 32, 3) := by decide +kernel
theorem jd_History_add_57 : decode mi_History_add.2.1 57 = .ok (.iload 5, 2) := by decide +kernel
theorem jd_History_add_59 : decode mi_History_add.2.1 59 = .ok (.aload_n 0, 1) := by decide +kernel
theorem jd_History_add_60 : decode mi_History_add.2.1 60 = .ok (.iload 5, 2) := by decide +kernel
theorem jd_History_add_62 : decode mi_History_add.2.1 62 = .ok (.invokevirtual 60, 3) := by decide +kernel
theorem jd_History_add_65 : decode mi_History_add.2.1 65 = .ok (.iastore, 1) := by decide +kernel
theorem jd_History_add_66 : decode mi_History_add.2.1 66 = .ok (.iconst 0, 1) := by decide +kernel
theorem jd_History_add_67 : decode mi_History_add.2.1 67 = .ok (.istore 6, 2) := by decide +kernel
theorem jd_History_add_69 : decode mi_History_add.2.1 69 = .ok (.iload 6, 2) := by decide +kernel
theorem jd_History_add_71 : decode mi_History_add.2.1 71 = .ok (.bipush 12, 2) := by decide +kernel
theorem jd_History_add_73 : decode mi_History_add.2.1 73 = .ok (.if_icmp .ge 30, 3) := by decide +kernel
theorem jd_History_add_76 : decode mi_History_add.2.1 76 = .ok (.aload_n 0, 1) := by decide +kernel
theorem jd_History_add_77 : decode mi_History_add.2.1 77 = .ok (.getfield 35, 3) := by decide +kernel
theorem jd_History_add_80 : decode mi_History_add.2.1 80 = .ok (.iload 5, 2) := by decide +kernel
theorem jd_History_add_82 : decode mi_History_add.2.1 82 = .ok (.bipush 12, 2) := by decide +kernel
theorem jd_History_add_84 : decode mi_History_add.2.1 84 = .ok (.imul, 1) := by decide +kernel
theorem jd_History_add_85 : decode mi_History_add.2.1 85 = .ok (.iload 6, 2) := by decide +kernel
theorem jd_History_add_87 : decode mi_History_add.2.1 87 = .ok (.iadd, 1) := by decide +kernel
theorem jd_History_add_88 : decode mi_History_add.2.1 88 = .ok (.aload_n 0, 1) := by decide +kernel
theorem jd_History_add_89 : decode mi_History_add.2.1 89 = .ok (.iload 5, 2) := by decide +kernel
theorem jd_History_add_91 : decode mi_History_add.2.1 91 = .ok (.iload 6, 2) := by decide +kernel
theorem jd_History_add_93 : decode mi_History_add.2.1 93 = .ok (.invokevirtual 63, 3) := by decide +kernel
theorem jd_History_add_96 : decode mi_History_add.2.1 96 = .ok (.iastore, 1) := by decide +kernel
theorem jd_History_add_97 : decode mi_History_add.2.1 97 = .ok (.iinc 6 1, 3) := by decide +kernel
theorem jd_History_add_100 : decode mi_History_add.2.1 100 = .ok (.goto (-31), 3) := by decide +kernel
theorem jd_History_add_103 : decode mi_History_add.2.1 103 = .ok (.aload_n 0, 1) := by decide +kernel
theorem jd_History_add_104 : decode mi_History_add.2.1 104 = .ok (.dup, 1) := by decide +kernel
theorem jd_History_add_105 : decode mi_History_add.2.1 105 = .ok (.getfield 45, 3) := by decide +kernel
theorem jd_History_add_108 : decode mi_History_add.2.1 108 = .ok (.iload 5, 2) := by decide +kernel
theorem jd_History_add_110 : decode mi_History_add.2.1 110 = .ok (.invokestatic 48, 3) := by decide +kernel
theorem jd_History_add_113 : decode mi_History_add.2.1 113 = .ok (.ior, 1) := by decide +kernel
theorem jd_History_add_114 : decode mi_History_add.2.1 114 = .ok (.putfield 45, 3) := by decide +kernel
theorem jd_History_add_117 : decode mi_History_add.2.1 117 = .ok (.aload_n 0, 1) := by decide +kernel
theorem jd_History_add_118 : decode mi_History_add.2.1 118 = .ok (.dup, 1) := by decide +kernel
theorem jd_History_add_119 : decode mi_History_add.2.1 119 = .ok (.getfield 41, 3) := by decide +kernel
theorem jd_History_add_122 : decode mi_History_add.2.1 122 = .ok (.iconst 1, 1) := by decide +kernel
theorem jd_History_add_123 : decode mi_History_add.2.1 123 = .ok (.iadd, 1) := by decide +kernel
theorem jd_History_add_124 : decode mi_History_add.2.1 124 = .ok (.putfield 41, 3) := by decide +kernel
theorem jd_History_add_127 : decode mi_History_add.2.1 127 = .ok (.iload 5, 2) := by decide +kernel
theorem jd_History_add_129 : decode mi_History_add.2.1 129 = .ok (.ireturn, 1) := by decide +kernel
/-! a commit is added -/
def HT (o : jw_O) (σ : zS) (Ts : Nat → zT) : Prop := ∀ i, i < 30 → TC o σ (tA o i) (Ts i)
section
variable {o : jw_O} {σ : zS} {Ts : Nat → zT}
theorem h_numT (h : HT o σ Ts) (n : Nat) (hn : n < 30) : zSpec mi_History_numberOfTree 3 o [.ref (zb o + 29), .int (iI n)] σ (fun v s => (∃ x, v = some (.int (iI x))) ∧ s = σ) := by
  refine z_spec (by decide +kernel) (Nat.le_of_ble_eq_true rfl) rfl (fun k hs hR hE => ?_)
  refine zx_iconst (pc' := 1) (n := 0) jd_History_numberOfTree_0 rfl ?_
  refine jw_istore_n (pc' := 2) (lc' := [(0, _), (1, _), (2, _)]) jd_History_numberOfTree_1 rfl (Nat.le_of_ble_eq_true rfl) ⟨rfl, rfl, rfl, trivial⟩ rfl ?_
  have loop : ∀ (d i : Nat), i + d = n → jw_X mi_History_numberOfTree o k 0 0 2 [(0, .ref (zb o + 29)), (1, .int (iI n)), (2, .int (iI i))] [] (mm o σ) hs := by
    intro d
    induction d with
    | zero =>
      intro i hi
      refine jw_iload_n (pc' := 3) jd_History_numberOfTree_2 rfl rfl rfl ?_
      refine jw_iload_n (pc' := 4) jd_History_numberOfTree_3 rfl rfl rfl ?_
      refine zx_icmp_ge (tgt := 31) (pc' := 7) (by first | exact rg_iv _ _ _ | omega) (by first | exact rg_iv _ _ _ | omega) jd_History_numberOfTree_4 (by decide) rfl (fun q => ?_) (fun q => ?_)
      rotate_left
      · exfalso; omega
      refine jw_iload_n (pc' := 32) jd_History_numberOfTree_31 rfl rfl rfl ?_
      refine zx_iret hE jd_History_numberOfTree_32 rfl ?_
      exact ⟨⟨_, rfl⟩, rfl⟩
    | succ d ih =>
      intro i hi
      have e01 := eqT_01 (Ts i) (Ts n)
      have h1 := (h i (by omega)).1
      refine jw_iload_n (pc' := 3) jd_History_numberOfTree_2 rfl rfl rfl ?_
      refine jw_iload_n (pc' := 4) jd_History_numberOfTree_3 rfl rfl rfl ?_
      refine zx_icmp_ge (tgt := 31) (pc' := 7) (by first | exact rg_iv _ _ _ | omega) (by first | exact rg_iv _ _ _ | omega) jd_History_numberOfTree_4 (by decide) rfl (fun q => ?_) (fun q => ?_)
      · exfalso; omega
      refine jw_aload_n (pc' := 8) jd_History_numberOfTree_7 rfl rfl rfl ?_
      refine jw_iload_n (pc' := 9) jd_History_numberOfTree_8 rfl rfl rfl ?_
      refine zx_callV0 (pc' := 12) hR (h_treeOf i (by omega)) jm_History_treeOf jq_478 jc_History jd_History_numberOfTree_9 (mc_History _) rfl rfl (Nat.le_of_ble_eq_true rfl) (by omega) (by decide) rfl rfl ?_
      refine jw_aload_n (pc' := 13) jd_History_numberOfTree_12 rfl rfl rfl ?_
      refine jw_iload_n (pc' := 14) jd_History_numberOfTree_13 rfl rfl rfl ?_
      refine zx_callV0 (pc' := 17) hR (h_treeOf n (by omega)) jm_History_treeOf jq_478 jc_History jd_History_numberOfTree_14 (mc_History _) rfl rfl (Nat.le_of_ble_eq_true rfl) (by omega) (by decide) rfl rfl ?_
      rw [trA_i (show i < 30 by omega), trA_i hn]
      refine zx_callV0 (pc' := 20) hR (t_sameAs (h i (by omega)) (h n hn)) jm_Tree_sameAs jq_479 jc_Tree jd_History_numberOfTree_17 (mc_Tree _ (by assumption)) rfl rfl (Nat.le_of_ble_eq_true rfl) (by omega) (by decide) rfl rfl ?_
      refine zx_if_eq (tgt := 25) (pc' := 23) (by first | exact rg_iv _ _ _ | omega) jd_History_numberOfTree_20 (by decide) rfl (fun q2 => ?_) (fun q2 => ?_)
      · refine zx_iinc (pc' := 28) (lc' := [(0, _), (1, _), (2, _)]) jd_History_numberOfTree_25 rfl (Nat.le_of_ble_eq_true rfl) ⟨rfl, rfl, rfl, trivial⟩ rfl ?_
        refine jw_goto (tgt := 2) jd_History_numberOfTree_28 (by decide) ?_
        exact ih (i + 1) (by omega)
      · refine jw_iload_n (pc' := 24) jd_History_numberOfTree_23 rfl rfl rfl ?_
        refine zx_iret hE jd_History_numberOfTree_24 rfl ?_
        exact ⟨⟨_, rfl⟩, rfl⟩
  exact loop n 0 (by omega)
theorem h_numC (h : HT o σ Ts) (n p : Nat) (hn : n < 30) (hp : p < 12) : zSpec mi_History_numberOfContent 2 o [.ref (zb o + 29), .int (iI n), .int (iI p)] σ (fun v s => (∃ x, v = some (.int (iI x))) ∧ s = σ) := by
  have hT := h n hn
  have hT1 := hT.1
  have hC := hT.2 p hp
  have hC1 := hC.1
  have o1 := hC.2.1.p
  refine z_spec (by decide +kernel) (Nat.le_of_ble_eq_true rfl) rfl (fun k hs hR hE => ?_)
  refine jw_aload_n (pc' := 1) jd_History_numberOfContent_0 rfl rfl rfl ?_
  refine jw_iload_n (pc' := 2) jd_History_numberOfContent_1 rfl rfl rfl ?_
  refine zx_callV0 (pc' := 5) hR (h_treeOf n (by omega)) jm_History_treeOf jq_478 jc_History jd_History_numberOfContent_2 (mc_History _) rfl rfl (Nat.le_of_ble_eq_true rfl) (by omega) (by decide) rfl rfl ?_
  rw [trA_i hn]
  refine jw_iload_n (pc' := 6) jd_History_numberOfContent_5 rfl rfl rfl ?_
  refine zx_callV0 (pc' := 9) hR (t_fileAt hT1 p hp) jm_Tree_fileAt jq_484 jc_Tree jd_History_numberOfContent_6 (mc_Tree _ (by assumption)) rfl rfl (Nat.le_of_ble_eq_true rfl) (by omega) (by decide) rfl rfl ?_
  refine jw_astore_n (pc' := 10) (lc' := [(0, _), (1, _), (2, _), (3, _)]) jd_History_numberOfContent_9 rfl (Nat.le_of_ble_eq_true rfl) ⟨rfl, rfl, rfl, rfl, trivial⟩ rfl ?_
  refine jw_aload_n (pc' := 11) jd_History_numberOfContent_10 rfl rfl rfl ?_
  refine zx_callV0 (pc' := 14) hR (c_exists hC) jm_Content_exists jq_485 jc_Content jd_History_numberOfContent_11 (mc_Content _ (by assumption)) rfl rfl (Nat.le_of_ble_eq_true rfl) (by omega) (by decide) rfl rfl ?_
  refine zx_if_ne (tgt := 19) (pc' := 17) (by first | exact rg_iv _ _ _ | omega) jd_History_numberOfContent_14 (by decide) rfl (fun q => ?_) (fun q => ?_)
  rotate_left
  · refine zx_iconst (pc' := 18) (n := -1) jd_History_numberOfContent_17 rfl ?_
    refine zx_iret hE jd_History_numberOfContent_18 rfl ?_
    exact ⟨⟨_, rfl⟩, rfl⟩
  refine jw_iload_n (pc' := 20) jd_History_numberOfContent_19 rfl rfl rfl ?_
  refine zx_bipush (pc' := 22) (n := 12) jd_History_numberOfContent_20 (by decide +kernel) rfl ?_
  refine zx_imul (pc' := 23) jd_History_numberOfContent_22 rfl ?_
  refine jw_iload_n (pc' := 24) jd_History_numberOfContent_23 rfl rfl rfl ?_
  refine zx_iadd (pc' := 25) jd_History_numberOfContent_24 rfl ?_
  refine jw_istore (pc' := 27) (lc' := [(0, _), (3, _), (4, _)]) jd_History_numberOfContent_25 (Nat.le_of_ble_eq_true rfl) ⟨rfl, rfl, rfl, trivial⟩ rfl ?_
  refine zx_iconst (pc' := 28) (n := 0) jd_History_numberOfContent_27 rfl ?_
  refine jw_istore (pc' := 30) (lc' := [(0, _), (3, _), (4, _), (5, _)]) jd_History_numberOfContent_28 (Nat.le_of_ble_eq_true rfl) ⟨rfl, rfl, rfl, rfl, trivial⟩ rfl ?_
  have e0 : (n : Int) * 12 + p = ((n * 12 + p : Nat) : Int) := by omega
  rw [e0]
  have loop : ∀ (d i : Nat), i + d = n * 12 + p → jw_X mi_History_numberOfContent o k 0 0 30 [(0, .ref (zb o + 29)), (3, .ref (fA (tA o n) p)), (4, .int (iI ((n * 12 + p : Nat) : Int))), (5, .int (iI i))] [] (mm o σ) hs := by
    intro d
    induction d with
    | zero =>
      intro i hi
      refine jw_iload (pc' := 32) jd_History_numberOfContent_30 rfl rfl ?_
      refine jw_iload (pc' := 34) jd_History_numberOfContent_32 rfl rfl ?_
      refine zx_icmp_ge (tgt := 70) (pc' := 37) (by first | exact rg_iv _ _ _ | omega) (by first | exact rg_iv _ _ _ | omega) jd_History_numberOfContent_34 (by decide) rfl (fun q => ?_) (fun q => ?_)
      rotate_left
      · exfalso; omega
      refine jw_iload (pc' := 72) jd_History_numberOfContent_70 rfl rfl ?_
      refine zx_iret hE jd_History_numberOfContent_72 rfl ?_
      exact ⟨⟨_, rfl⟩, rfl⟩
    | succ d ih =>
      intro i hi
      have h2 := h (i / 12) (by omega)
      have h21 := h2.1
      have e01 := eqV_01 (Ts n p) (Ts (i / 12) (i % 12))
      refine jw_iload (pc' := 32) jd_History_numberOfContent_30 rfl rfl ?_
      refine jw_iload (pc' := 34) jd_History_numberOfContent_32 rfl rfl ?_
      refine zx_icmp_ge (tgt := 70) (pc' := 37) (by first | exact rg_iv _ _ _ | omega) (by first | exact rg_iv _ _ _ | omega) jd_History_numberOfContent_34 (by decide) rfl (fun q => ?_) (fun q => ?_)
      · exfalso; omega
      refine jw_aload_n (pc' := 38) jd_History_numberOfContent_37 rfl rfl rfl ?_
      refine jw_aload_n (pc' := 39) jd_History_numberOfContent_38 rfl rfl rfl ?_
      refine jw_iload (pc' := 41) jd_History_numberOfContent_39 rfl rfl ?_
      refine zx_bipush (pc' := 43) (n := 12) jd_History_numberOfContent_41 (by decide +kernel) rfl ?_
      refine zx_idiv (pc' := 44) jd_History_numberOfContent_43 (by omega) (by omega) rfl ?_
      rw [show (i : Int) / 12 = ((i / 12 : Nat) : Int) by omega]
      refine zx_callV0 (pc' := 47) hR (h_treeOf (i / 12 : Nat) (by omega)) jm_History_treeOf jq_478 jc_History jd_History_numberOfContent_44 (mc_History _) rfl rfl (Nat.le_of_ble_eq_true rfl) (by omega) (by decide) rfl rfl ?_
      rw [trA_i (show i / 12 < 30 by omega)]
      refine jw_iload (pc' := 49) jd_History_numberOfContent_47 rfl rfl ?_
      refine zx_bipush (pc' := 51) (n := 12) jd_History_numberOfContent_49 (by decide +kernel) rfl ?_
      refine zx_irem (pc' := 52) jd_History_numberOfContent_51 (by omega) (by omega) rfl ?_
      rw [show (i : Int) % 12 = ((i % 12 : Nat) : Int) by omega]
      refine zx_callV0 (pc' := 55) hR (t_fileAt h21 (i % 12) (by omega)) jm_Tree_fileAt jq_484 jc_Tree jd_History_numberOfContent_52 (mc_Tree _ (by assumption)) rfl rfl (Nat.le_of_ble_eq_true rfl) (by omega) (by decide) rfl rfl ?_
      refine zx_callV0 (pc' := 58) hR (c_sameAs hC (h2.2 (i % 12) (by omega))) jm_Content_sameAs jq_486 jc_Content jd_History_numberOfContent_55 (mc_Content _ (by assumption)) rfl rfl (Nat.le_of_ble_eq_true rfl) (by omega) (by decide) rfl rfl ?_
      refine zx_if_eq (tgt := 64) (pc' := 61) (by first | exact rg_iv _ _ _ | omega) jd_History_numberOfContent_58 (by decide) rfl (fun q2 => ?_) (fun q2 => ?_)
      · refine zx_iinc (pc' := 67) (lc' := [(0, _), (3, _), (4, _), (5, _)]) jd_History_numberOfContent_64 rfl (Nat.le_of_ble_eq_true rfl) ⟨rfl, rfl, rfl, rfl, trivial⟩ rfl ?_
        refine jw_goto (tgt := 30) jd_History_numberOfContent_67 (by decide) ?_
        exact ih (i + 1) (by omega)
      · refine jw_iload (pc' := 63) jd_History_numberOfContent_61 rfl rfl ?_
        refine zx_iret hE jd_History_numberOfContent_63 rfl ?_
        exact ⟨⟨_, rfl⟩, rfl⟩
  exact loop (n * 12 + p) 0 (by omega)
theorem TC.cells {s : zS} {t : Nat} {A : zT} (h : TC o σ t A) (f : ∀ x, t ≤ x → x < t + 28 → s x = σ x) : TC o s t A := ⟨h.1, fun p hp => (h.2 p hp).cell (f _ (by unfold fA; omega) (by unfold fA; omega)) (f _ (by unfold fA; omega) (by unfold fA; omega))⟩
/-- what a new commit changes: its tree, the numbers, how many, which are kept -/
def adF (o : jw_O) (σ s : zS) (n : Nat) : Prop := ∀ a, a ≠ zb o + 29 → (a < zb o + 59 ∨ zb o + 64 ≤ a) → (a < tA o n ∨ tA o n + 28 ≤ a) → s a = σ a
theorem h_add {f g t c : Nat → Int} {n kp u : Nat} {A : zT} {note x y : Int} (h : HC σ (zb o + 29) f g t c n kp) (hT : HT o σ Ts) (hA : TC o σ u A) (hu : u + 28 ≤ zb o + 29) (hn : n < 30) (hx : -2147483648 ≤ x ∧ x < 2147483648) (hy : -2147483648 ≤ y ∧ y < 2147483648) : zSpec mi_History_add 4 o [.ref (zb o + 29), .ref u, .int (iI note), .int (iI x), .int (iI y)] σ (fun v s => v = some (.int (iI n)) ∧ TC o s (tA o n) A ∧ (∃ t2 c2, HC s (zb o + 29) (fun i => if i = n then x else f i) (fun i => if i = n then y else g i) t2 c2 (n + 1) (kp ||| 2 ^ n)) ∧ adF o σ s n) := by
  obtain ⟨h1, h2, h3, h4, h5, h6, h7, h8⟩ := h
  have i1 := isT_i (o := o) hn
  have e30 := p30
  have htA : ∀ i, i < 30 → zb o + 65 ≤ tA o i ∧ tA o i + 28 ≤ zb o + 905 := fun i hi => by unfold tA; omega
  have ht := htA n hn
  have h2n : (2 : Nat) ^ n < 2 ^ 30 := Nat.pow_lt_pow_right (by decide) hn
  have hor : kp ||| 2 ^ n < 2 ^ 30 := Nat.or_lt_two_pow h8 h2n
  refine z_spec (by decide +kernel) (Nat.le_of_ble_eq_true rfl) rfl (fun k hs hR hE => ?_)
  refine jw_aload_n (pc' := 1) jd_History_add_0 rfl rfl rfl ?_
  refine zx_getI (pc' := 4) (kf := 8) jc_History (by decide) jq_97 jd_History_add_1 (mc_History _) rfl rfl ?_
  refine zx_bipush (pc' := 6) (n := 30) jd_History_add_4 (by decide +kernel) rfl ?_
  refine zx_icmp_lt (tgt := 11) (pc' := 9) (by first | exact rg_iv _ _ _ | omega) (by first | exact rg_iv _ _ _ | omega) jd_History_add_6 (by decide) rfl (fun q => ?_) (fun q => ?_)
  rotate_left
  · exfalso; omega
  refine jw_aload_n (pc' := 12) jd_History_add_11 rfl rfl rfl ?_
  refine zx_getI (pc' := 15) (kf := 8) jc_History (by decide) jq_97 jd_History_add_12 (mc_History _) rfl rfl ?_
  refine jw_istore (pc' := 17) (lc' := [(0, _), (1, _), (2, _), (3, _), (4, _), (5, _)]) jd_History_add_15 (Nat.le_of_ble_eq_true rfl) ⟨rfl, rfl, rfl, rfl, rfl, rfl, trivial⟩ rfl ?_
  rw [h5]
  refine jw_aload_n (pc' := 18) jd_History_add_17 rfl rfl rfl ?_
  refine jw_get (pc' := 21) (kf := 0) jc_History (by decide) jq_89 jd_History_add_18 (mc_History _) rfl rfl ?_
  refine jw_iload (pc' := 23) jd_History_add_21 rfl rfl ?_
  refine zx_trees (pc' := 24) jd_History_add_23 rfl (by omega) rfl ?_
  refine jw_aload_n (pc' := 25) jd_History_add_24 rfl rfl rfl ?_
  refine zx_callV (pc' := 28) hR (t_copyFrom i1 hA (by omega)) jm_Tree_copyFrom jq_469 jc_Tree jd_History_add_25 (mc_Tree _ (by assumption)) rfl rfl (Nat.le_of_ble_eq_true rfl) (by omega) (by decide) rfl (fun v9 s1 q9 => ?_)
  obtain ⟨rfl, g1, f1⟩ := q9
  refine jw_aload_n (pc' := 29) jd_History_add_28 rfl rfl rfl ?_
  refine jw_get (pc' := 32) (kf := 2) jc_History (by decide) jq_91 jd_History_add_29 (mc_History _) rfl rfl ?_
  refine jw_iload (pc' := 34) jd_History_add_32 rfl rfl ?_
  refine jw_iload_n (pc' := 35) jd_History_add_34 rfl rfl rfl ?_
  refine zx_iast (pc' := 36) jd_History_add_35 (ml_History_notes _) rfl (by omega) (Nat.le_of_ble_eq_true rfl) rfl ?_
  refine jw_aload_n (pc' := 37) jd_History_add_36 rfl rfl rfl ?_
  refine jw_get (pc' := 40) (kf := 3) jc_History (by decide) jq_92 jd_History_add_37 (mc_History _) rfl rfl ?_
  refine jw_iload (pc' := 42) jd_History_add_40 rfl rfl ?_
  refine jw_iload_n (pc' := 43) jd_History_add_42 rfl rfl rfl ?_
  refine zx_iast (pc' := 44) jd_History_add_43 (ml_History_firstParents _) rfl (by omega) (Nat.le_of_ble_eq_true rfl) rfl ?_
  refine jw_aload_n (pc' := 45) jd_History_add_44 rfl rfl rfl ?_
  refine jw_get (pc' := 48) (kf := 4) jc_History (by decide) jq_93 jd_History_add_45 (mc_History _) rfl rfl ?_
  refine jw_iload (pc' := 50) jd_History_add_48 rfl rfl ?_
  refine jw_iload (pc' := 52) jd_History_add_50 rfl rfl ?_
  refine zx_iast (pc' := 53) jd_History_add_52 (ml_History_secondParents _) rfl (by omega) (Nat.le_of_ble_eq_true rfl) rfl ?_
  refine jw_aload_n (pc' := 54) jd_History_add_53 rfl rfl rfl ?_
  refine jw_get (pc' := 57) (kf := 5) jc_History (by decide) jq_94 jd_History_add_54 (mc_History _) rfl rfl ?_
  refine jw_iload (pc' := 59) jd_History_add_57 rfl rfl ?_
  refine jw_aload_n (pc' := 60) jd_History_add_59 rfl rfl rfl ?_
  refine jw_iload (pc' := 62) jd_History_add_60 rfl rfl ?_
  refine jw_sub (lc' := [(0, _), (5, _)]) ⟨rfl, rfl, trivial⟩ ?_
  -- what stays from here on: trees, and what the loop needs
  have keep : ∀ s : zS, (∀ a, a ≠ zb o + 29 → (a < zb o + 59 ∨ zb o + 64 ≤ a) → (a < tA o n ∨ tA o n + 28 ≤ a) → s a = σ a) → (∀ a, tA o n ≤ a → a < tA o n + 28 → s a = s1 a) → ∃ T2, HT o s T2 := by
    intro s k1 k2
    refine ⟨fun i => if i = n then A else Ts i, fun i hi => ?_⟩
    by_cases e : i = n
    · dsimp only
      rw [if_pos e, e]
      exact g1.cells (fun x h1 h2 => k2 x h1 h2)
    · dsimp only
      rw [if_neg e]
      have hti := htA i hi
      refine (hT i hi).cells (fun x h1 h2 => k1 x (by omega) (by omega) ?_)
      unfold tA at *
      omega
  obtain ⟨s2, hs2⟩ : ∃ z, z = si (si (si s1 (zb o + 59) n note) (zb o + 60) n x) (zb o + 61) n y := ⟨_, rfl⟩
  rw [← hs2]
  have F2 : ∀ a, a ≠ zb o + 59 → a ≠ zb o + 60 → a ≠ zb o + 61 → s2 a = s1 a := fun a p1 p2 p3 => by rw [hs2, si_ne p3, si_ne p2, si_ne p1]
  have k2a : ∀ a, a ≠ zb o + 29 → (a < zb o + 59 ∨ zb o + 64 ≤ a) → (a < tA o n ∨ tA o n + 28 ≤ a) → s2 a = σ a := fun a p1 p2 p3 => by rw [F2 a (by omega) (by omega) (by omega)]; exact f1 a (by omega)
  have k2b : ∀ a, tA o n ≤ a → a < tA o n + 28 → s2 a = s1 a := fun a p1 p2 => F2 a (by omega) (by omega) (by omega)
  have x60 : ∀ i, i < 30 → iv s2 (zb o + 60) i = if i = n then x else f i := fun i hi => by
    rw [hs2, iv_cell (si_ne (by omega)), iv_si hx]
    by_cases e : i = n
    · rw [if_pos ⟨rfl, e⟩, if_pos e]
    · rw [if_neg (fun z => e z.2), if_neg e, iv_cell (si_ne (by omega)), iv_cell (f1 _ (by omega))]; exact h1 i hi
  have x61 : ∀ i, i < 30 → iv s2 (zb o + 61) i = if i = n then y else g i := fun i hi => by
    rw [hs2, iv_si hy]
    by_cases e : i = n
    · rw [if_pos ⟨rfl, e⟩, if_pos e]
    · rw [if_neg (fun z => e z.2), if_neg e, iv_cell (si_ne (by omega)), iv_cell (si_ne (by omega)), iv_cell (f1 _ (by omega))]; exact h2 i hi
  have x8 : iv s2 (zb o + 29) 8 = n := by rw [iv_cell (F2 _ (by omega) (by omega) (by omega)), iv_cell (f1 _ (by omega))]; exact h5
  have x9 : iv s2 (zb o + 29) 9 = kp := by rw [iv_cell (F2 _ (by omega) (by omega) (by omega)), iv_cell (f1 _ (by omega))]; exact h6
  obtain ⟨T2, hT2⟩ := keep s2 k2a k2b
  refine zx_callV (pc' := 65) hR (h_numT hT2 n hn) jm_History_numberOfTree jq_474 jc_History jd_History_add_62 (mc_History _) rfl rfl (Nat.le_of_ble_eq_true rfl) (by omega) (by decide) rfl (fun v9 s3 q9 => ?_)
  obtain ⟨⟨w, rfl⟩, e3⟩ := q9
  rw [e3]
  refine zx_iast (pc' := 66) jd_History_add_65 (ml_History_treeNumbers _) rfl (by omega) (Nat.le_of_ble_eq_true rfl) rfl ?_
  refine zx_iconst (pc' := 67) (n := 0) jd_History_add_66 rfl ?_
  refine jw_istore (pc' := 69) (lc' := [(0, _), (5, _), (6, _)]) jd_History_add_67 (Nat.le_of_ble_eq_true rfl) ⟨rfl, rfl, rfl, trivial⟩ rfl ?_
  have loop : ∀ (d i : Nat) (s : zS), i + d = 12 → (∀ a, a ≠ zb o + 62 → a ≠ zb o + 63 → s a = s2 a) → jw_X mi_History_add o k 0 0 69 [(0, .ref (zb o + 29)), (5, .int (iI n)), (6, .int (iI i))] [] (mm o s) hs := by
    intro d
    induction d with
    | zero =>
      intro i s hi hF
      refine jw_iload (pc' := 71) jd_History_add_69 rfl rfl ?_
      refine zx_bipush (pc' := 73) (n := 12) jd_History_add_71 (by decide +kernel) rfl ?_
      refine zx_icmp_ge (tgt := 103) (pc' := 76) (by first | exact rg_iv _ _ _ | omega) (by first | exact rg_iv _ _ _ | omega) jd_History_add_73 (by decide) rfl (fun q2 => ?_) (fun q2 => ?_)
      rotate_left
      · exfalso; omega
      refine jw_aload_n (pc' := 104) jd_History_add_103 rfl rfl rfl ?_
      refine jw_dup (pc' := 105) jd_History_add_104 rfl rfl ?_
      refine zx_getI (pc' := 108) (kf := 9) jc_History (by decide) jq_98 jd_History_add_105 (mc_History _) rfl rfl ?_
      refine jw_sub (lc' := [(0, _), (5, _)]) ⟨rfl, rfl, trivial⟩ ?_
      rw [show iv s (zb o + 29) 9 = kp from (iv_cell (hF _ (by omega) (by omega)) _).trans x9]
      refine jw_iload (pc' := 110) jd_History_add_108 rfl rfl ?_
      refine zx_callS0 (pc' := 113) hR (h_setOf n (by omega)) jm_History_setOf jq_487 jd_History_add_110 rfl rfl (Nat.le_of_ble_eq_true rfl) (by omega) (by decide) rfl rfl ?_
      rw [bS_i hn]
      refine zx_ior (pc' := 114) jd_History_add_113 rfl ?_
      refine zx_putI (pc' := 117) (kf := 9) jc_History (by decide) jq_98 jd_History_add_114 rfl (by decide +kernel) (mc_History _) rfl rfl ?_
      refine jw_aload_n (pc' := 118) jd_History_add_117 rfl rfl rfl ?_
      refine jw_dup (pc' := 119) jd_History_add_118 rfl rfl ?_
      refine zx_getI (pc' := 122) (kf := 8) jc_History (by decide) jq_97 jd_History_add_119 (mc_History _) rfl rfl ?_
      refine zx_iconst (pc' := 123) (n := 1) jd_History_add_122 rfl ?_
      refine zx_iadd (pc' := 124) jd_History_add_123 rfl ?_
      refine zx_putI (pc' := 127) (kf := 8) jc_History (by decide) jq_97 jd_History_add_124 rfl (by decide +kernel) (mc_History _) rfl rfl ?_
      refine jw_iload (pc' := 129) jd_History_add_127 rfl rfl ?_
      refine zx_iret hE jd_History_add_129 rfl ?_
      have y8 : iv (si s (zb o + 29) 9 ((kp ||| 2 ^ n : Nat) : Int)) (zb o + 29) 8 = n := by rw [iv_si (by omega), if_neg (by omega), iv_cell (hF _ (by omega) (by omega))]; exact x8
      rw [y8]
      have G : ∀ a, a ≠ zb o + 29 → si (si s (zb o + 29) 9 ((kp ||| 2 ^ n : Nat) : Int)) (zb o + 29) 8 (n + 1) a = s a := fun a p => by rw [si_ne p, si_ne p]
      refine ⟨rfl, g1.cells (fun a p1 p2 => ?_), ⟨fun i => iv s (zb o + 62) i, fun i => iv s (zb o + 63) i, fun i hi => ?_, fun i hi => ?_, fun i hi => ?_, fun i hi => ?_, ?_, ?_, by omega, hor⟩, fun a p1 p2 p3 => ?_⟩
      · rw [G a (by omega), hF a (by omega) (by omega)]; exact k2b a p1 p2
      · rw [iv_cell (G _ (by omega)), iv_cell (hF _ (by omega) (by omega))]; exact x60 i hi
      · rw [iv_cell (G _ (by omega)), iv_cell (hF _ (by omega) (by omega))]; exact x61 i hi
      · rw [iv_cell (G _ (by omega))]
      · rw [iv_cell (G _ (by omega))]
      · rw [iv_si (by omega), if_pos ⟨rfl, rfl⟩]; omega
      · rw [iv_si (by omega), if_neg (by omega), iv_si (by omega), if_pos ⟨rfl, rfl⟩]
      · rw [G a p1, hF a (by omega) (by omega)]; exact k2a a p1 p2 p3
    | succ d ih =>
      intro i s hi hF
      obtain ⟨T3, hT3⟩ := keep s (fun a p1 p2 p3 => by rw [hF a (by omega) (by omega)]; exact k2a a p1 p2 p3) (fun a p1 p2 => by rw [hF a (by omega) (by omega)]; exact k2b a p1 p2)
      refine jw_iload (pc' := 71) jd_History_add_69 rfl rfl ?_
      refine zx_bipush (pc' := 73) (n := 12) jd_History_add_71 (by decide +kernel) rfl ?_
      refine zx_icmp_ge (tgt := 103) (pc' := 76) (by first | exact rg_iv _ _ _ | omega) (by first | exact rg_iv _ _ _ | omega) jd_History_add_73 (by decide) rfl (fun q2 => ?_) (fun q2 => ?_)
      · exfalso; omega
      refine jw_aload_n (pc' := 77) jd_History_add_76 rfl rfl rfl ?_
      refine jw_get (pc' := 80) (kf := 6) jc_History (by decide) jq_95 jd_History_add_77 (mc_History _) rfl rfl ?_
      refine jw_iload (pc' := 82) jd_History_add_80 rfl rfl ?_
      refine zx_bipush (pc' := 84) (n := 12) jd_History_add_82 (by decide +kernel) rfl ?_
      refine zx_imul (pc' := 85) jd_History_add_84 rfl ?_
      refine jw_iload (pc' := 87) jd_History_add_85 rfl rfl ?_
      refine zx_iadd (pc' := 88) jd_History_add_87 rfl ?_
      refine jw_aload_n (pc' := 89) jd_History_add_88 rfl rfl rfl ?_
      refine jw_iload (pc' := 91) jd_History_add_89 rfl rfl ?_
      refine jw_iload (pc' := 93) jd_History_add_91 rfl rfl ?_
      refine zx_callV (pc' := 96) hR (h_numC hT3 n i hn (by omega)) jm_History_numberOfContent jq_480 jc_History jd_History_add_93 (mc_History _) rfl rfl (Nat.le_of_ble_eq_true rfl) (by omega) (by decide) rfl (fun v9 s4 q9 => ?_)
      obtain ⟨⟨w2, rfl⟩, rfl⟩ := q9
      refine zx_iast (pc' := 97) (j := n * 12 + i) jd_History_add_96 (ml_History_contentNumbers _) (by omega) (by omega) (Nat.le_of_ble_eq_true rfl) rfl ?_
      refine zx_iinc (pc' := 100) (lc' := [(0, _), (5, _), (6, _)]) jd_History_add_97 rfl (Nat.le_of_ble_eq_true rfl) ⟨rfl, rfl, rfl, trivial⟩ rfl ?_
      refine jw_goto (tgt := 69) jd_History_add_100 (by decide) ?_
      exact ih (i + 1) _ (by omega) (fun a p1 p2 => by rw [si_ne p2]; exact hF a p1 p2)
  exact loop 12 0 _ (by omega) (fun a p1 p2 => si_ne p1)
end
end
