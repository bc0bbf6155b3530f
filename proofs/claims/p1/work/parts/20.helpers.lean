def mi_BranchworkLaw_put : jw_M := (⟨"BranchworkLaw", "put", "(LBranchwork;III[J)I"⟩, method_3_code, 6, (Option.some Jvm.ClassFile.FieldType.int))
def jh_put : List (Nat × Nat × Nat × Nat) := [((0 : Nat), (12 : Nat), (15 : Nat), (13 : Nat)), ((0 : Nat), (12 : Nat), (19 : Nat), (15 : Nat)), ((0 : Nat), (12 : Nat), (23 : Nat), (17 : Nat))]
def mi_BranchworkLaw_cut : jw_M := (⟨"BranchworkLaw", "cut", "(LBranchwork;II[J)I"⟩, method_4_code, 5, (Option.some Jvm.ClassFile.FieldType.int))
def jh_cut : List (Nat × Nat × Nat × Nat) := [((0 : Nat), (10 : Nat), (13 : Nat), (13 : Nat))]
def mi_BranchworkLaw_rename : jw_M := (⟨"BranchworkLaw", "rename", "(LBranchwork;II[J)I"⟩, method_5_code, 5, (Option.some Jvm.ClassFile.FieldType.int))
def jh_rename : List (Nat × Nat × Nat × Nat) := [((0 : Nat), (10 : Nat), (13 : Nat), (13 : Nat)), ((0 : Nat), (10 : Nat), (17 : Nat), (17 : Nat))]
def mi_BranchworkLaw_remove : jw_M := (⟨"BranchworkLaw", "remove", "(LBranchwork;I[J)I"⟩, method_6_code, 4, (Option.some Jvm.ClassFile.FieldType.int))
def jh_remove : List (Nat × Nat × Nat × Nat) := [((0 : Nat), (9 : Nat), (12 : Nat), (13 : Nat))]
def mi_BranchworkLaw_status : jw_M := (⟨"BranchworkLaw", "status", "(LBranchwork;I[J)I"⟩, method_7_code, 4, (Option.some Jvm.ClassFile.FieldType.int))
def jh_status : List (Nat × Nat × Nat × Nat) := [((0 : Nat), (9 : Nat), (12 : Nat), (13 : Nat))]
def mi_BranchworkLaw_commit : jw_M := (⟨"BranchworkLaw", "commit", "(LBranchwork;I[J)I"⟩, method_8_code, 4, (Option.some Jvm.ClassFile.FieldType.int))
def jh_commit : List (Nat × Nat × Nat × Nat) := [((0 : Nat), (9 : Nat), (12 : Nat), (15 : Nat)), ((0 : Nat), (9 : Nat), (15 : Nat), (17 : Nat))]
def mi_BranchworkLaw_branch : jw_M := (⟨"BranchworkLaw", "branch", "(LBranchwork;[J)I"⟩, method_9_code, 3, (Option.some Jvm.ClassFile.FieldType.int))
def jh_branch : List (Nat × Nat × Nat × Nat) := [((0 : Nat), (8 : Nat), (11 : Nat), (17 : Nat))]
def mi_BranchworkLaw_change : jw_M := (⟨"BranchworkLaw", "change", "(LBranchwork;I[J)I"⟩, method_10_code, 4, (Option.some Jvm.ClassFile.FieldType.int))
def jh_change : List (Nat × Nat × Nat × Nat) := [((0 : Nat), (9 : Nat), (12 : Nat), (13 : Nat)), ((0 : Nat), (9 : Nat), (15 : Nat), (17 : Nat))]
def mi_BranchworkLaw_reset : jw_M := (⟨"BranchworkLaw", "reset", "(LBranchwork;I[J)I"⟩, method_11_code, 4, (Option.some Jvm.ClassFile.FieldType.int))
def jh_reset : List (Nat × Nat × Nat × Nat) := [((0 : Nat), (9 : Nat), (12 : Nat), (13 : Nat))]
def mi_BranchworkLaw_merge : jw_M := (⟨"BranchworkLaw", "merge", "(LBranchwork;I[J)I"⟩, method_12_code, 4, (Option.some Jvm.ClassFile.FieldType.int))
def jh_merge : List (Nat × Nat × Nat × Nat) := [((0 : Nat), (9 : Nat), (12 : Nat), (13 : Nat)), ((0 : Nat), (9 : Nat), (15 : Nat), (17 : Nat))]
def mi_BranchworkLaw_settle : jw_M := (⟨"BranchworkLaw", "settle", "(LBranchwork;I[J)I"⟩, method_13_code, 4, (Option.some Jvm.ClassFile.FieldType.int))
def jh_settle : List (Nat × Nat × Nat × Nat) := [((0 : Nat), (9 : Nat), (12 : Nat), (13 : Nat))]
def mi_BranchworkLaw_many : jw_M := (⟨"BranchworkLaw", "many", "(LBranchwork;I[J)I"⟩, method_14_code, 4, (Option.some Jvm.ClassFile.FieldType.int))
def jh_many : List (Nat × Nat × Nat × Nat) := [((0 : Nat), (9 : Nat), (12 : Nat), (15 : Nat))]
def mi_BranchworkLaw_now : jw_M := (⟨"BranchworkLaw", "now", "(LBranchwork;I[J)I"⟩, method_15_code, 4, (Option.some Jvm.ClassFile.FieldType.int))
def jh_now : List (Nat × Nat × Nat × Nat) := [((0 : Nat), (9 : Nat), (12 : Nat), (15 : Nat))]
def mi_BranchworkLaw_at : jw_M := (⟨"BranchworkLaw", "at", "(LBranchwork;I[J)I"⟩, method_16_code, 4, (Option.some Jvm.ClassFile.FieldType.int))
def jh_at : List (Nat × Nat × Nat × Nat) := [((0 : Nat), (9 : Nat), (12 : Nat), (13 : Nat))]
def mi_BranchworkLaw_ofCommit : jw_M := (⟨"BranchworkLaw", "ofCommit", "(LBranchwork;II[J)I"⟩, method_17_code, 5, (Option.some Jvm.ClassFile.FieldType.int))
def jh_ofCommit : List (Nat × Nat × Nat × Nat) := [((0 : Nat), (10 : Nat), (13 : Nat), (13 : Nat)), ((0 : Nat), (10 : Nat), (17 : Nat), (15 : Nat))]
def mi_BranchworkLaw_line : jw_M := (⟨"BranchworkLaw", "line", "(LBranchwork;III[J)I"⟩, method_18_code, 6, (Option.some Jvm.ClassFile.FieldType.int))
def jh_line : List (Nat × Nat × Nat × Nat) := [((0 : Nat), (12 : Nat), (15 : Nat), (13 : Nat))]
def mi_BranchworkLaw_size : jw_M := (⟨"BranchworkLaw", "size", "(LBranchwork;II[J)I"⟩, method_19_code, 5, (Option.some Jvm.ClassFile.FieldType.int))
def jh_size : List (Nat × Nat × Nat × Nat) := [((0 : Nat), (10 : Nat), (13 : Nat), (13 : Nat))]
def mi_BranchworkLaw_conflict : jw_M := (⟨"BranchworkLaw", "conflict", "(LBranchwork;II[J)I"⟩, method_20_code, 5, (Option.some Jvm.ClassFile.FieldType.int))
def jh_conflict : List (Nat × Nat × Nat × Nat) := [((0 : Nat), (10 : Nat), (13 : Nat), (13 : Nat)), ((0 : Nat), (10 : Nat), (17 : Nat), (15 : Nat))]
def mi_BranchworkLaw_base : jw_M := (⟨"BranchworkLaw", "base", "(LBranchwork;II[J)I"⟩, method_21_code, 5, (Option.some Jvm.ClassFile.FieldType.int))
def jh_base : List (Nat × Nat × Nat × Nat) := [((0 : Nat), (10 : Nat), (13 : Nat), (13 : Nat))]
def mi_BranchworkLaw_went : jw_M := (⟨"BranchworkLaw", "went", "(LBranchwork;III[J)I"⟩, method_22_code, 6, (Option.some Jvm.ClassFile.FieldType.int))
def jh_went : List (Nat × Nat × Nat × Nat) := [((0 : Nat), (12 : Nat), (15 : Nat), (13 : Nat))]
def mi_BranchworkLaw_changes : jw_M := (⟨"BranchworkLaw", "changes", "(LBranchwork;III[J)I"⟩, method_23_code, 6, (Option.some Jvm.ClassFile.FieldType.int))
def jh_changes : List (Nat × Nat × Nat × Nat) := [((0 : Nat), (12 : Nat), (15 : Nat), (13 : Nat)), ((0 : Nat), (12 : Nat), (19 : Nat), (15 : Nat))]
def mi_BranchworkLaw_nearness : jw_M := (⟨"BranchworkLaw", "nearness", "(LBranchwork;IIII[J)I"⟩, method_24_code, 7, (Option.some Jvm.ClassFile.FieldType.int))
def jh_nearness : List (Nat × Nat × Nat × Nat) := [((0 : Nat), (14 : Nat), (17 : Nat), (13 : Nat))]
def mi_BranchworkLaw_origin : jw_M := (⟨"BranchworkLaw", "origin", "(LBranchwork;III[J)I"⟩, method_25_code, 6, (Option.some Jvm.ClassFile.FieldType.int))
def jh_origin : List (Nat × Nat × Nat × Nat) := [((0 : Nat), (12 : Nat), (15 : Nat), (13 : Nat))]
def mi_BranchworkLaw_conflictsOf : jw_M := (⟨"BranchworkLaw", "conflictsOf", "(LBranchwork;II[J)I"⟩, method_26_code, 5, (Option.some Jvm.ClassFile.FieldType.int))
def jh_conflictsOf : List (Nat × Nat × Nat × Nat) := [((0 : Nat), (10 : Nat), (13 : Nat), (13 : Nat))]
theorem jv_upd {f : Nat → Int64} {x : Int64} : vp_updL f (nI 0 : Int32).toNatClampNeg x 0 = x := by
  have e : (nI 0 : Int32).toNatClampNeg = 0 := nI_clamp (by omega)
  rw [e]
  rfl
/-- a helper of the law: the number of its exception, or 0 and the answer in the first place of the array at L -/
def jh_F (mi : jw_M) (hh : List (Nat × Nat × Nat × Nat)) (o : jw_O) (As : List Value) (μ : jw_Mem) (hs b L n : Nat) (val : Int32) : Prop := jw_SpH mi hh 10 8 48 o As μ hs (fun v μ' s' => v = some (.int (nI n)) ∧ (∃ g : Nat → Int64, μ' L = some (.inl (o.2.2.1 4, 1, .inr (.inl g))) ∧ (n = 0 → g 0 = val.toInt64)) ∧ ∀ q, (q < b ∨ b + 984 ≤ q) → q ≠ L → μ' q = μ q)
theorem jd_BranchworkLaw_put_0 : decode mi_BranchworkLaw_put.2.1 0 = .ok (.aload 4, 2) := by decide +kernel
theorem jd_BranchworkLaw_put_2 : decode mi_BranchworkLaw_put.2.1 2 = .ok (.iconst 0, 1) := by decide +kernel
theorem jd_BranchworkLaw_put_3 : decode mi_BranchworkLaw_put.2.1 3 = .ok (.aload_n 0, 1) := by decide +kernel
theorem jd_BranchworkLaw_put_4 : decode mi_BranchworkLaw_put.2.1 4 = .ok (.iload_n 1, 1) := by decide +kernel
theorem jd_BranchworkLaw_put_5 : decode mi_BranchworkLaw_put.2.1 5 = .ok (.iload_n 2, 1) := by decide +kernel
theorem jd_BranchworkLaw_put_6 : decode mi_BranchworkLaw_put.2.1 6 = .ok (.iload_n 3, 1) := by decide +kernel
theorem jd_BranchworkLaw_put_7 : decode mi_BranchworkLaw_put.2.1 7 = .ok (.invokevirtual 7, 3) := by decide +kernel
theorem jd_BranchworkLaw_put_10 : decode mi_BranchworkLaw_put.2.1 10 = .ok (.i2l, 1) := by decide +kernel
theorem jd_BranchworkLaw_put_11 : decode mi_BranchworkLaw_put.2.1 11 = .ok (.lastore, 1) := by decide +kernel
theorem jd_BranchworkLaw_put_12 : decode mi_BranchworkLaw_put.2.1 12 = .ok (.goto 15, 3) := by decide +kernel
theorem jd_BranchworkLaw_put_15 : decode mi_BranchworkLaw_put.2.1 15 = .ok (.astore 5, 2) := by decide +kernel
theorem jd_BranchworkLaw_put_17 : decode mi_BranchworkLaw_put.2.1 17 = .ok (.iconst 1, 1) := by decide +kernel
theorem jd_BranchworkLaw_put_18 : decode mi_BranchworkLaw_put.2.1 18 = .ok (.ireturn, 1) := by decide +kernel
theorem jd_BranchworkLaw_put_19 : decode mi_BranchworkLaw_put.2.1 19 = .ok (.astore 5, 2) := by decide +kernel
theorem jd_BranchworkLaw_put_21 : decode mi_BranchworkLaw_put.2.1 21 = .ok (.iconst 2, 1) := by decide +kernel
theorem jd_BranchworkLaw_put_22 : decode mi_BranchworkLaw_put.2.1 22 = .ok (.ireturn, 1) := by decide +kernel
theorem jd_BranchworkLaw_put_23 : decode mi_BranchworkLaw_put.2.1 23 = .ok (.astore 5, 2) := by decide +kernel
theorem jd_BranchworkLaw_put_25 : decode mi_BranchworkLaw_put.2.1 25 = .ok (.iconst 3, 1) := by decide +kernel
theorem jd_BranchworkLaw_put_26 : decode mi_BranchworkLaw_put.2.1 26 = .ok (.ireturn, 1) := by decide +kernel
theorem jd_BranchworkLaw_put_27 : decode mi_BranchworkLaw_put.2.1 27 = .ok (.iconst 0, 1) := by decide +kernel
theorem jd_BranchworkLaw_put_28 : decode mi_BranchworkLaw_put.2.1 28 = .ok (.ireturn, 1) := by decide +kernel
theorem jd_BranchworkLaw_cut_0 : decode mi_BranchworkLaw_cut.2.1 0 = .ok (.aload_n 3, 1) := by decide +kernel
theorem jd_BranchworkLaw_cut_1 : decode mi_BranchworkLaw_cut.2.1 1 = .ok (.iconst 0, 1) := by decide +kernel
theorem jd_BranchworkLaw_cut_2 : decode mi_BranchworkLaw_cut.2.1 2 = .ok (.aload_n 0, 1) := by decide +kernel
theorem jd_BranchworkLaw_cut_3 : decode mi_BranchworkLaw_cut.2.1 3 = .ok (.iload_n 1, 1) := by decide +kernel
theorem jd_BranchworkLaw_cut_4 : decode mi_BranchworkLaw_cut.2.1 4 = .ok (.iload_n 2, 1) := by decide +kernel
theorem jd_BranchworkLaw_cut_5 : decode mi_BranchworkLaw_cut.2.1 5 = .ok (.invokevirtual 19, 3) := by decide +kernel
theorem jd_BranchworkLaw_cut_8 : decode mi_BranchworkLaw_cut.2.1 8 = .ok (.i2l, 1) := by decide +kernel
theorem jd_BranchworkLaw_cut_9 : decode mi_BranchworkLaw_cut.2.1 9 = .ok (.lastore, 1) := by decide +kernel
theorem jd_BranchworkLaw_cut_10 : decode mi_BranchworkLaw_cut.2.1 10 = .ok (.goto 7, 3) := by decide +kernel
theorem jd_BranchworkLaw_cut_13 : decode mi_BranchworkLaw_cut.2.1 13 = .ok (.astore 4, 2) := by decide +kernel
theorem jd_BranchworkLaw_cut_15 : decode mi_BranchworkLaw_cut.2.1 15 = .ok (.iconst 1, 1) := by decide +kernel
theorem jd_BranchworkLaw_cut_16 : decode mi_BranchworkLaw_cut.2.1 16 = .ok (.ireturn, 1) := by decide +kernel
theorem jd_BranchworkLaw_cut_17 : decode mi_BranchworkLaw_cut.2.1 17 = .ok (.iconst 0, 1) := by decide +kernel
theorem jd_BranchworkLaw_cut_18 : decode mi_BranchworkLaw_cut.2.1 18 = .ok (.ireturn, 1) := by decide +kernel
theorem jd_BranchworkLaw_rename_0 : decode mi_BranchworkLaw_rename.2.1 0 = .ok (.aload_n 3, 1) := by decide +kernel
theorem jd_BranchworkLaw_rename_1 : decode mi_BranchworkLaw_rename.2.1 1 = .ok (.iconst 0, 1) := by decide +kernel
theorem jd_BranchworkLaw_rename_2 : decode mi_BranchworkLaw_rename.2.1 2 = .ok (.aload_n 0, 1) := by decide +kernel
theorem jd_BranchworkLaw_rename_3 : decode mi_BranchworkLaw_rename.2.1 3 = .ok (.iload_n 1, 1) := by decide +kernel
theorem jd_BranchworkLaw_rename_4 : decode mi_BranchworkLaw_rename.2.1 4 = .ok (.iload_n 2, 1) := by decide +kernel
theorem jd_BranchworkLaw_rename_5 : decode mi_BranchworkLaw_rename.2.1 5 = .ok (.invokevirtual 23, 3) := by decide +kernel
theorem jd_BranchworkLaw_rename_8 : decode mi_BranchworkLaw_rename.2.1 8 = .ok (.i2l, 1) := by decide +kernel
theorem jd_BranchworkLaw_rename_9 : decode mi_BranchworkLaw_rename.2.1 9 = .ok (.lastore, 1) := by decide +kernel
theorem jd_BranchworkLaw_rename_10 : decode mi_BranchworkLaw_rename.2.1 10 = .ok (.goto 11, 3) := by decide +kernel
theorem jd_BranchworkLaw_rename_13 : decode mi_BranchworkLaw_rename.2.1 13 = .ok (.astore 4, 2) := by decide +kernel
theorem jd_BranchworkLaw_rename_15 : decode mi_BranchworkLaw_rename.2.1 15 = .ok (.iconst 1, 1) := by decide +kernel
theorem jd_BranchworkLaw_rename_16 : decode mi_BranchworkLaw_rename.2.1 16 = .ok (.ireturn, 1) := by decide +kernel
theorem jd_BranchworkLaw_rename_17 : decode mi_BranchworkLaw_rename.2.1 17 = .ok (.astore 4, 2) := by decide +kernel
theorem jd_BranchworkLaw_rename_19 : decode mi_BranchworkLaw_rename.2.1 19 = .ok (.iconst 2, 1) := by decide +kernel
theorem jd_BranchworkLaw_rename_20 : decode mi_BranchworkLaw_rename.2.1 20 = .ok (.ireturn, 1) := by decide +kernel
theorem jd_BranchworkLaw_rename_21 : decode mi_BranchworkLaw_rename.2.1 21 = .ok (.iconst 0, 1) := by decide +kernel
theorem jd_BranchworkLaw_rename_22 : decode mi_BranchworkLaw_rename.2.1 22 = .ok (.ireturn, 1) := by decide +kernel
theorem jd_BranchworkLaw_remove_0 : decode mi_BranchworkLaw_remove.2.1 0 = .ok (.aload_n 2, 1) := by decide +kernel
theorem jd_BranchworkLaw_remove_1 : decode mi_BranchworkLaw_remove.2.1 1 = .ok (.iconst 0, 1) := by decide +kernel
theorem jd_BranchworkLaw_remove_2 : decode mi_BranchworkLaw_remove.2.1 2 = .ok (.aload_n 0, 1) := by decide +kernel
theorem jd_BranchworkLaw_remove_3 : decode mi_BranchworkLaw_remove.2.1 3 = .ok (.iload_n 1, 1) := by decide +kernel
theorem jd_BranchworkLaw_remove_4 : decode mi_BranchworkLaw_remove.2.1 4 = .ok (.invokevirtual 26, 3) := by decide +kernel
theorem jd_BranchworkLaw_remove_7 : decode mi_BranchworkLaw_remove.2.1 7 = .ok (.i2l, 1) := by decide +kernel
theorem jd_BranchworkLaw_remove_8 : decode mi_BranchworkLaw_remove.2.1 8 = .ok (.lastore, 1) := by decide +kernel
theorem jd_BranchworkLaw_remove_9 : decode mi_BranchworkLaw_remove.2.1 9 = .ok (.goto 6, 3) := by decide +kernel
theorem jd_BranchworkLaw_remove_12 : decode mi_BranchworkLaw_remove.2.1 12 = .ok (.astore_n 3, 1) := by decide +kernel
theorem jd_BranchworkLaw_remove_13 : decode mi_BranchworkLaw_remove.2.1 13 = .ok (.iconst 1, 1) := by decide +kernel
theorem jd_BranchworkLaw_remove_14 : decode mi_BranchworkLaw_remove.2.1 14 = .ok (.ireturn, 1) := by decide +kernel
theorem jd_BranchworkLaw_remove_15 : decode mi_BranchworkLaw_remove.2.1 15 = .ok (.iconst 0, 1) := by decide +kernel
theorem jd_BranchworkLaw_remove_16 : decode mi_BranchworkLaw_remove.2.1 16 = .ok (.ireturn, 1) := by decide +kernel
theorem jd_BranchworkLaw_status_0 : decode mi_BranchworkLaw_status.2.1 0 = .ok (.aload_n 2, 1) := by decide +kernel
theorem jd_BranchworkLaw_status_1 : decode mi_BranchworkLaw_status.2.1 1 = .ok (.iconst 0, 1) := by decide +kernel
theorem jd_BranchworkLaw_status_2 : decode mi_BranchworkLaw_status.2.1 2 = .ok (.aload_n 0, 1) := by decide +kernel
theorem jd_BranchworkLaw_status_3 : decode mi_BranchworkLaw_status.2.1 3 = .ok (.iload_n 1, 1) := by decide +kernel
theorem jd_BranchworkLaw_status_4 : decode mi_BranchworkLaw_status.2.1 4 = .ok (.invokevirtual 30, 3) := by decide +kernel
theorem jd_BranchworkLaw_status_7 : decode mi_BranchworkLaw_status.2.1 7 = .ok (.i2l, 1) := by decide +kernel
theorem jd_BranchworkLaw_status_8 : decode mi_BranchworkLaw_status.2.1 8 = .ok (.lastore, 1) := by decide +kernel
theorem jd_BranchworkLaw_status_9 : decode mi_BranchworkLaw_status.2.1 9 = .ok (.goto 6, 3) := by decide +kernel
theorem jd_BranchworkLaw_status_12 : decode mi_BranchworkLaw_status.2.1 12 = .ok (.astore_n 3, 1) := by decide +kernel
theorem jd_BranchworkLaw_status_13 : decode mi_BranchworkLaw_status.2.1 13 = .ok (.iconst 1, 1) := by decide +kernel
theorem jd_BranchworkLaw_status_14 : decode mi_BranchworkLaw_status.2.1 14 = .ok (.ireturn, 1) := by decide +kernel
theorem jd_BranchworkLaw_status_15 : decode mi_BranchworkLaw_status.2.1 15 = .ok (.iconst 0, 1) := by decide +kernel
theorem jd_BranchworkLaw_status_16 : decode mi_BranchworkLaw_status.2.1 16 = .ok (.ireturn, 1) := by decide +kernel
theorem jd_BranchworkLaw_commit_0 : decode mi_BranchworkLaw_commit.2.1 0 = .ok (.aload_n 2, 1) := by decide +kernel
theorem jd_BranchworkLaw_commit_1 : decode mi_BranchworkLaw_commit.2.1 1 = .ok (.iconst 0, 1) := by decide +kernel
theorem jd_BranchworkLaw_commit_2 : decode mi_BranchworkLaw_commit.2.1 2 = .ok (.aload_n 0, 1) := by decide +kernel
theorem jd_BranchworkLaw_commit_3 : decode mi_BranchworkLaw_commit.2.1 3 = .ok (.iload_n 1, 1) := by decide +kernel
theorem jd_BranchworkLaw_commit_4 : decode mi_BranchworkLaw_commit.2.1 4 = .ok (.invokevirtual 33, 3) := by decide +kernel
theorem jd_BranchworkLaw_commit_7 : decode mi_BranchworkLaw_commit.2.1 7 = .ok (.i2l, 1) := by decide +kernel
theorem jd_BranchworkLaw_commit_8 : decode mi_BranchworkLaw_commit.2.1 8 = .ok (.lastore, 1) := by decide +kernel
theorem jd_BranchworkLaw_commit_9 : decode mi_BranchworkLaw_commit.2.1 9 = .ok (.goto 9, 3) := by decide +kernel
theorem jd_BranchworkLaw_commit_12 : decode mi_BranchworkLaw_commit.2.1 12 = .ok (.astore_n 3, 1) := by decide +kernel
theorem jd_BranchworkLaw_commit_13 : decode mi_BranchworkLaw_commit.2.1 13 = .ok (.iconst 1, 1) := by decide +kernel
theorem jd_BranchworkLaw_commit_14 : decode mi_BranchworkLaw_commit.2.1 14 = .ok (.ireturn, 1) := by decide +kernel
theorem jd_BranchworkLaw_commit_15 : decode mi_BranchworkLaw_commit.2.1 15 = .ok (.astore_n 3, 1) := by decide +kernel
theorem jd_BranchworkLaw_commit_16 : decode mi_BranchworkLaw_commit.2.1 16 = .ok (.iconst 2, 1) := by decide +kernel
theorem jd_BranchworkLaw_commit_17 : decode mi_BranchworkLaw_commit.2.1 17 = .ok (.ireturn, 1) := by decide +kernel
theorem jd_BranchworkLaw_commit_18 : decode mi_BranchworkLaw_commit.2.1 18 = .ok (.iconst 0, 1) := by decide +kernel
theorem jd_BranchworkLaw_commit_19 : decode mi_BranchworkLaw_commit.2.1 19 = .ok (.ireturn, 1) := by decide +kernel
theorem jd_BranchworkLaw_branch_0 : decode mi_BranchworkLaw_branch.2.1 0 = .ok (.aload_n 1, 1) := by decide +kernel
theorem jd_BranchworkLaw_branch_1 : decode mi_BranchworkLaw_branch.2.1 1 = .ok (.iconst 0, 1) := by decide +kernel
theorem jd_BranchworkLaw_branch_2 : decode mi_BranchworkLaw_branch.2.1 2 = .ok (.aload_n 0, 1) := by decide +kernel
theorem jd_BranchworkLaw_branch_3 : decode mi_BranchworkLaw_branch.2.1 3 = .ok (.invokevirtual 36, 3) := by decide +kernel
theorem jd_BranchworkLaw_branch_6 : decode mi_BranchworkLaw_branch.2.1 6 = .ok (.i2l, 1) := by decide +kernel
theorem jd_BranchworkLaw_branch_7 : decode mi_BranchworkLaw_branch.2.1 7 = .ok (.lastore, 1) := by decide +kernel
theorem jd_BranchworkLaw_branch_8 : decode mi_BranchworkLaw_branch.2.1 8 = .ok (.goto 6, 3) := by decide +kernel
theorem jd_BranchworkLaw_branch_11 : decode mi_BranchworkLaw_branch.2.1 11 = .ok (.astore_n 2, 1) := by decide +kernel
theorem jd_BranchworkLaw_branch_12 : decode mi_BranchworkLaw_branch.2.1 12 = .ok (.iconst 1, 1) := by decide +kernel
theorem jd_BranchworkLaw_branch_13 : decode mi_BranchworkLaw_branch.2.1 13 = .ok (.ireturn, 1) := by decide +kernel
theorem jd_BranchworkLaw_branch_14 : decode mi_BranchworkLaw_branch.2.1 14 = .ok (.iconst 0, 1) := by decide +kernel
theorem jd_BranchworkLaw_branch_15 : decode mi_BranchworkLaw_branch.2.1 15 = .ok (.ireturn, 1) := by decide +kernel
theorem jd_BranchworkLaw_change_0 : decode mi_BranchworkLaw_change.2.1 0 = .ok (.aload_n 2, 1) := by decide +kernel
theorem jd_BranchworkLaw_change_1 : decode mi_BranchworkLaw_change.2.1 1 = .ok (.iconst 0, 1) := by decide +kernel
theorem jd_BranchworkLaw_change_2 : decode mi_BranchworkLaw_change.2.1 2 = .ok (.aload_n 0, 1) := by decide +kernel
theorem jd_BranchworkLaw_change_3 : decode mi_BranchworkLaw_change.2.1 3 = .ok (.iload_n 1, 1) := by decide +kernel
theorem jd_BranchworkLaw_change_4 : decode mi_BranchworkLaw_change.2.1 4 = .ok (.invokevirtual 40, 3) := by decide +kernel
theorem jd_BranchworkLaw_change_7 : decode mi_BranchworkLaw_change.2.1 7 = .ok (.i2l, 1) := by decide +kernel
theorem jd_BranchworkLaw_change_8 : decode mi_BranchworkLaw_change.2.1 8 = .ok (.lastore, 1) := by decide +kernel
theorem jd_BranchworkLaw_change_9 : decode mi_BranchworkLaw_change.2.1 9 = .ok (.goto 9, 3) := by decide +kernel
theorem jd_BranchworkLaw_change_12 : decode mi_BranchworkLaw_change.2.1 12 = .ok (.astore_n 3, 1) := by decide +kernel
theorem jd_BranchworkLaw_change_13 : decode mi_BranchworkLaw_change.2.1 13 = .ok (.iconst 1, 1) := by decide +kernel
theorem jd_BranchworkLaw_change_14 : decode mi_BranchworkLaw_change.2.1 14 = .ok (.ireturn, 1) := by decide +kernel
theorem jd_BranchworkLaw_change_15 : decode mi_BranchworkLaw_change.2.1 15 = .ok (.astore_n 3, 1) := by decide +kernel
theorem jd_BranchworkLaw_change_16 : decode mi_BranchworkLaw_change.2.1 16 = .ok (.iconst 2, 1) := by decide +kernel
theorem jd_BranchworkLaw_change_17 : decode mi_BranchworkLaw_change.2.1 17 = .ok (.ireturn, 1) := by decide +kernel
theorem jd_BranchworkLaw_change_18 : decode mi_BranchworkLaw_change.2.1 18 = .ok (.iconst 0, 1) := by decide +kernel
theorem jd_BranchworkLaw_change_19 : decode mi_BranchworkLaw_change.2.1 19 = .ok (.ireturn, 1) := by decide +kernel
theorem jd_BranchworkLaw_reset_0 : decode mi_BranchworkLaw_reset.2.1 0 = .ok (.aload_n 2, 1) := by decide +kernel
theorem jd_BranchworkLaw_reset_1 : decode mi_BranchworkLaw_reset.2.1 1 = .ok (.iconst 0, 1) := by decide +kernel
theorem jd_BranchworkLaw_reset_2 : decode mi_BranchworkLaw_reset.2.1 2 = .ok (.aload_n 0, 1) := by decide +kernel
theorem jd_BranchworkLaw_reset_3 : decode mi_BranchworkLaw_reset.2.1 3 = .ok (.iload_n 1, 1) := by decide +kernel
theorem jd_BranchworkLaw_reset_4 : decode mi_BranchworkLaw_reset.2.1 4 = .ok (.invokevirtual 43, 3) := by decide +kernel
theorem jd_BranchworkLaw_reset_7 : decode mi_BranchworkLaw_reset.2.1 7 = .ok (.i2l, 1) := by decide +kernel
theorem jd_BranchworkLaw_reset_8 : decode mi_BranchworkLaw_reset.2.1 8 = .ok (.lastore, 1) := by decide +kernel
theorem jd_BranchworkLaw_reset_9 : decode mi_BranchworkLaw_reset.2.1 9 = .ok (.goto 6, 3) := by decide +kernel
theorem jd_BranchworkLaw_reset_12 : decode mi_BranchworkLaw_reset.2.1 12 = .ok (.astore_n 3, 1) := by decide +kernel
theorem jd_BranchworkLaw_reset_13 : decode mi_BranchworkLaw_reset.2.1 13 = .ok (.iconst 1, 1) := by decide +kernel
theorem jd_BranchworkLaw_reset_14 : decode mi_BranchworkLaw_reset.2.1 14 = .ok (.ireturn, 1) := by decide +kernel
theorem jd_BranchworkLaw_reset_15 : decode mi_BranchworkLaw_reset.2.1 15 = .ok (.iconst 0, 1) := by decide +kernel
theorem jd_BranchworkLaw_reset_16 : decode mi_BranchworkLaw_reset.2.1 16 = .ok (.ireturn, 1) := by decide +kernel
theorem jd_BranchworkLaw_merge_0 : decode mi_BranchworkLaw_merge.2.1 0 = .ok (.aload_n 2, 1) := by decide +kernel
theorem jd_BranchworkLaw_merge_1 : decode mi_BranchworkLaw_merge.2.1 1 = .ok (.iconst 0, 1) := by decide +kernel
theorem jd_BranchworkLaw_merge_2 : decode mi_BranchworkLaw_merge.2.1 2 = .ok (.aload_n 0, 1) := by decide +kernel
theorem jd_BranchworkLaw_merge_3 : decode mi_BranchworkLaw_merge.2.1 3 = .ok (.iload_n 1, 1) := by decide +kernel
theorem jd_BranchworkLaw_merge_4 : decode mi_BranchworkLaw_merge.2.1 4 = .ok (.invokevirtual 46, 3) := by decide +kernel
theorem jd_BranchworkLaw_merge_7 : decode mi_BranchworkLaw_merge.2.1 7 = .ok (.i2l, 1) := by decide +kernel
theorem jd_BranchworkLaw_merge_8 : decode mi_BranchworkLaw_merge.2.1 8 = .ok (.lastore, 1) := by decide +kernel
theorem jd_BranchworkLaw_merge_9 : decode mi_BranchworkLaw_merge.2.1 9 = .ok (.goto 9, 3) := by decide +kernel
theorem jd_BranchworkLaw_merge_12 : decode mi_BranchworkLaw_merge.2.1 12 = .ok (.astore_n 3, 1) := by decide +kernel
theorem jd_BranchworkLaw_merge_13 : decode mi_BranchworkLaw_merge.2.1 13 = .ok (.iconst 1, 1) := by decide +kernel
theorem jd_BranchworkLaw_merge_14 : decode mi_BranchworkLaw_merge.2.1 14 = .ok (.ireturn, 1) := by decide +kernel
theorem jd_BranchworkLaw_merge_15 : decode mi_BranchworkLaw_merge.2.1 15 = .ok (.astore_n 3, 1) := by decide +kernel
theorem jd_BranchworkLaw_merge_16 : decode mi_BranchworkLaw_merge.2.1 16 = .ok (.iconst 2, 1) := by decide +kernel
theorem jd_BranchworkLaw_merge_17 : decode mi_BranchworkLaw_merge.2.1 17 = .ok (.ireturn, 1) := by decide +kernel
theorem jd_BranchworkLaw_merge_18 : decode mi_BranchworkLaw_merge.2.1 18 = .ok (.iconst 0, 1) := by decide +kernel
theorem jd_BranchworkLaw_merge_19 : decode mi_BranchworkLaw_merge.2.1 19 = .ok (.ireturn, 1) := by decide +kernel
theorem jd_BranchworkLaw_settle_0 : decode mi_BranchworkLaw_settle.2.1 0 = .ok (.aload_n 2, 1) := by decide +kernel
theorem jd_BranchworkLaw_settle_1 : decode mi_BranchworkLaw_settle.2.1 1 = .ok (.iconst 0, 1) := by decide +kernel
theorem jd_BranchworkLaw_settle_2 : decode mi_BranchworkLaw_settle.2.1 2 = .ok (.aload_n 0, 1) := by decide +kernel
theorem jd_BranchworkLaw_settle_3 : decode mi_BranchworkLaw_settle.2.1 3 = .ok (.iload_n 1, 1) := by decide +kernel
theorem jd_BranchworkLaw_settle_4 : decode mi_BranchworkLaw_settle.2.1 4 = .ok (.invokevirtual 49, 3) := by decide +kernel
theorem jd_BranchworkLaw_settle_7 : decode mi_BranchworkLaw_settle.2.1 7 = .ok (.i2l, 1) := by decide +kernel
theorem jd_BranchworkLaw_settle_8 : decode mi_BranchworkLaw_settle.2.1 8 = .ok (.lastore, 1) := by decide +kernel
theorem jd_BranchworkLaw_settle_9 : decode mi_BranchworkLaw_settle.2.1 9 = .ok (.goto 6, 3) := by decide +kernel
theorem jd_BranchworkLaw_settle_12 : decode mi_BranchworkLaw_settle.2.1 12 = .ok (.astore_n 3, 1) := by decide +kernel
theorem jd_BranchworkLaw_settle_13 : decode mi_BranchworkLaw_settle.2.1 13 = .ok (.iconst 1, 1) := by decide +kernel
theorem jd_BranchworkLaw_settle_14 : decode mi_BranchworkLaw_settle.2.1 14 = .ok (.ireturn, 1) := by decide +kernel
theorem jd_BranchworkLaw_settle_15 : decode mi_BranchworkLaw_settle.2.1 15 = .ok (.iconst 0, 1) := by decide +kernel
theorem jd_BranchworkLaw_settle_16 : decode mi_BranchworkLaw_settle.2.1 16 = .ok (.ireturn, 1) := by decide +kernel
theorem jd_BranchworkLaw_many_0 : decode mi_BranchworkLaw_many.2.1 0 = .ok (.aload_n 2, 1) := by decide +kernel
theorem jd_BranchworkLaw_many_1 : decode mi_BranchworkLaw_many.2.1 1 = .ok (.iconst 0, 1) := by decide +kernel
theorem jd_BranchworkLaw_many_2 : decode mi_BranchworkLaw_many.2.1 2 = .ok (.aload_n 0, 1) := by decide +kernel
theorem jd_BranchworkLaw_many_3 : decode mi_BranchworkLaw_many.2.1 3 = .ok (.iload_n 1, 1) := by decide +kernel
theorem jd_BranchworkLaw_many_4 : decode mi_BranchworkLaw_many.2.1 4 = .ok (.invokevirtual 52, 3) := by decide +kernel
theorem jd_BranchworkLaw_many_7 : decode mi_BranchworkLaw_many.2.1 7 = .ok (.i2l, 1) := by decide +kernel
theorem jd_BranchworkLaw_many_8 : decode mi_BranchworkLaw_many.2.1 8 = .ok (.lastore, 1) := by decide +kernel
theorem jd_BranchworkLaw_many_9 : decode mi_BranchworkLaw_many.2.1 9 = .ok (.goto 6, 3) := by decide +kernel
theorem jd_BranchworkLaw_many_12 : decode mi_BranchworkLaw_many.2.1 12 = .ok (.astore_n 3, 1) := by decide +kernel
theorem jd_BranchworkLaw_many_13 : decode mi_BranchworkLaw_many.2.1 13 = .ok (.iconst 1, 1) := by decide +kernel
theorem jd_BranchworkLaw_many_14 : decode mi_BranchworkLaw_many.2.1 14 = .ok (.ireturn, 1) := by decide +kernel
theorem jd_BranchworkLaw_many_15 : decode mi_BranchworkLaw_many.2.1 15 = .ok (.iconst 0, 1) := by decide +kernel
theorem jd_BranchworkLaw_many_16 : decode mi_BranchworkLaw_many.2.1 16 = .ok (.ireturn, 1) := by decide +kernel
theorem jd_BranchworkLaw_now_0 : decode mi_BranchworkLaw_now.2.1 0 = .ok (.aload_n 2, 1) := by decide +kernel
theorem jd_BranchworkLaw_now_1 : decode mi_BranchworkLaw_now.2.1 1 = .ok (.iconst 0, 1) := by decide +kernel
theorem jd_BranchworkLaw_now_2 : decode mi_BranchworkLaw_now.2.1 2 = .ok (.aload_n 0, 1) := by decide +kernel
theorem jd_BranchworkLaw_now_3 : decode mi_BranchworkLaw_now.2.1 3 = .ok (.iload_n 1, 1) := by decide +kernel
theorem jd_BranchworkLaw_now_4 : decode mi_BranchworkLaw_now.2.1 4 = .ok (.invokevirtual 55, 3) := by decide +kernel
theorem jd_BranchworkLaw_now_7 : decode mi_BranchworkLaw_now.2.1 7 = .ok (.i2l, 1) := by decide +kernel
theorem jd_BranchworkLaw_now_8 : decode mi_BranchworkLaw_now.2.1 8 = .ok (.lastore, 1) := by decide +kernel
theorem jd_BranchworkLaw_now_9 : decode mi_BranchworkLaw_now.2.1 9 = .ok (.goto 6, 3) := by decide +kernel
theorem jd_BranchworkLaw_now_12 : decode mi_BranchworkLaw_now.2.1 12 = .ok (.astore_n 3, 1) := by decide +kernel
theorem jd_BranchworkLaw_now_13 : decode mi_BranchworkLaw_now.2.1 13 = .ok (.iconst 1, 1) := by decide +kernel
theorem jd_BranchworkLaw_now_14 : decode mi_BranchworkLaw_now.2.1 14 = .ok (.ireturn, 1) := by decide +kernel
theorem jd_BranchworkLaw_now_15 : decode mi_BranchworkLaw_now.2.1 15 = .ok (.iconst 0, 1) := by decide +kernel
theorem jd_BranchworkLaw_now_16 : decode mi_BranchworkLaw_now.2.1 16 = .ok (.ireturn, 1) := by decide +kernel
theorem jd_BranchworkLaw_at_0 : decode mi_BranchworkLaw_at.2.1 0 = .ok (.aload_n 2, 1) := by decide +kernel
theorem jd_BranchworkLaw_at_1 : decode mi_BranchworkLaw_at.2.1 1 = .ok (.iconst 0, 1) := by decide +kernel
theorem jd_BranchworkLaw_at_2 : decode mi_BranchworkLaw_at.2.1 2 = .ok (.aload_n 0, 1) := by decide +kernel
theorem jd_BranchworkLaw_at_3 : decode mi_BranchworkLaw_at.2.1 3 = .ok (.iload_n 1, 1) := by decide +kernel
theorem jd_BranchworkLaw_at_4 : decode mi_BranchworkLaw_at.2.1 4 = .ok (.invokevirtual 58, 3) := by decide +kernel
theorem jd_BranchworkLaw_at_7 : decode mi_BranchworkLaw_at.2.1 7 = .ok (.i2l, 1) := by decide +kernel
theorem jd_BranchworkLaw_at_8 : decode mi_BranchworkLaw_at.2.1 8 = .ok (.lastore, 1) := by decide +kernel
theorem jd_BranchworkLaw_at_9 : decode mi_BranchworkLaw_at.2.1 9 = .ok (.goto 6, 3) := by decide +kernel
theorem jd_BranchworkLaw_at_12 : decode mi_BranchworkLaw_at.2.1 12 = .ok (.astore_n 3, 1) := by decide +kernel
theorem jd_BranchworkLaw_at_13 : decode mi_BranchworkLaw_at.2.1 13 = .ok (.iconst 1, 1) := by decide +kernel
theorem jd_BranchworkLaw_at_14 : decode mi_BranchworkLaw_at.2.1 14 = .ok (.ireturn, 1) := by decide +kernel
theorem jd_BranchworkLaw_at_15 : decode mi_BranchworkLaw_at.2.1 15 = .ok (.iconst 0, 1) := by decide +kernel
theorem jd_BranchworkLaw_at_16 : decode mi_BranchworkLaw_at.2.1 16 = .ok (.ireturn, 1) := by decide +kernel
theorem jd_BranchworkLaw_ofCommit_0 : decode mi_BranchworkLaw_ofCommit.2.1 0 = .ok (.aload_n 3, 1) := by decide +kernel
theorem jd_BranchworkLaw_ofCommit_1 : decode mi_BranchworkLaw_ofCommit.2.1 1 = .ok (.iconst 0, 1) := by decide +kernel
theorem jd_BranchworkLaw_ofCommit_2 : decode mi_BranchworkLaw_ofCommit.2.1 2 = .ok (.aload_n 0, 1) := by decide +kernel
theorem jd_BranchworkLaw_ofCommit_3 : decode mi_BranchworkLaw_ofCommit.2.1 3 = .ok (.iload_n 1, 1) := by decide +kernel
theorem jd_BranchworkLaw_ofCommit_4 : decode mi_BranchworkLaw_ofCommit.2.1 4 = .ok (.iload_n 2, 1) := by decide +kernel
theorem jd_BranchworkLaw_ofCommit_5 : decode mi_BranchworkLaw_ofCommit.2.1 5 = .ok (.invokevirtual 61, 3) := by decide +kernel
theorem jd_BranchworkLaw_ofCommit_8 : decode mi_BranchworkLaw_ofCommit.2.1 8 = .ok (.i2l, 1) := by decide +kernel
theorem jd_BranchworkLaw_ofCommit_9 : decode mi_BranchworkLaw_ofCommit.2.1 9 = .ok (.lastore, 1) := by decide +kernel
theorem jd_BranchworkLaw_ofCommit_10 : decode mi_BranchworkLaw_ofCommit.2.1 10 = .ok (.goto 11, 3) := by decide +kernel
theorem jd_BranchworkLaw_ofCommit_13 : decode mi_BranchworkLaw_ofCommit.2.1 13 = .ok (.astore 4, 2) := by decide +kernel
theorem jd_BranchworkLaw_ofCommit_15 : decode mi_BranchworkLaw_ofCommit.2.1 15 = .ok (.iconst 1, 1) := by decide +kernel
theorem jd_BranchworkLaw_ofCommit_16 : decode mi_BranchworkLaw_ofCommit.2.1 16 = .ok (.ireturn, 1) := by decide +kernel
theorem jd_BranchworkLaw_ofCommit_17 : decode mi_BranchworkLaw_ofCommit.2.1 17 = .ok (.astore 4, 2) := by decide +kernel
theorem jd_BranchworkLaw_ofCommit_19 : decode mi_BranchworkLaw_ofCommit.2.1 19 = .ok (.iconst 2, 1) := by decide +kernel
theorem jd_BranchworkLaw_ofCommit_20 : decode mi_BranchworkLaw_ofCommit.2.1 20 = .ok (.ireturn, 1) := by decide +kernel
theorem jd_BranchworkLaw_ofCommit_21 : decode mi_BranchworkLaw_ofCommit.2.1 21 = .ok (.iconst 0, 1) := by decide +kernel
theorem jd_BranchworkLaw_ofCommit_22 : decode mi_BranchworkLaw_ofCommit.2.1 22 = .ok (.ireturn, 1) := by decide +kernel
theorem jd_BranchworkLaw_line_0 : decode mi_BranchworkLaw_line.2.1 0 = .ok (.aload 4, 2) := by decide +kernel
theorem jd_BranchworkLaw_line_2 : decode mi_BranchworkLaw_line.2.1 2 = .ok (.iconst 0, 1) := by decide +kernel
theorem jd_BranchworkLaw_line_3 : decode mi_BranchworkLaw_line.2.1 3 = .ok (.aload_n 0, 1) := by decide +kernel
theorem jd_BranchworkLaw_line_4 : decode mi_BranchworkLaw_line.2.1 4 = .ok (.iload_n 1, 1) := by decide +kernel
theorem jd_BranchworkLaw_line_5 : decode mi_BranchworkLaw_line.2.1 5 = .ok (.iload_n 2, 1) := by decide +kernel
theorem jd_BranchworkLaw_line_6 : decode mi_BranchworkLaw_line.2.1 6 = .ok (.iload_n 3, 1) := by decide +kernel
theorem jd_BranchworkLaw_line_7 : decode mi_BranchworkLaw_line.2.1 7 = .ok (.invokevirtual 64, 3) := by decide +kernel
theorem jd_BranchworkLaw_line_10 : decode mi_BranchworkLaw_line.2.1 10 = .ok (.i2l, 1) := by decide +kernel
theorem jd_BranchworkLaw_line_11 : decode mi_BranchworkLaw_line.2.1 11 = .ok (.lastore, 1) := by decide +kernel
theorem jd_BranchworkLaw_line_12 : decode mi_BranchworkLaw_line.2.1 12 = .ok (.goto 7, 3) := by decide +kernel
theorem jd_BranchworkLaw_line_15 : decode mi_BranchworkLaw_line.2.1 15 = .ok (.astore 5, 2) := by decide +kernel
theorem jd_BranchworkLaw_line_17 : decode mi_BranchworkLaw_line.2.1 17 = .ok (.iconst 1, 1) := by decide +kernel
theorem jd_BranchworkLaw_line_18 : decode mi_BranchworkLaw_line.2.1 18 = .ok (.ireturn, 1) := by decide +kernel
theorem jd_BranchworkLaw_line_19 : decode mi_BranchworkLaw_line.2.1 19 = .ok (.iconst 0, 1) := by decide +kernel
theorem jd_BranchworkLaw_line_20 : decode mi_BranchworkLaw_line.2.1 20 = .ok (.ireturn, 1) := by decide +kernel
theorem jd_BranchworkLaw_size_0 : decode mi_BranchworkLaw_size.2.1 0 = .ok (.aload_n 3, 1) := by decide +kernel
theorem jd_BranchworkLaw_size_1 : decode mi_BranchworkLaw_size.2.1 1 = .ok (.iconst 0, 1) := by decide +kernel
theorem jd_BranchworkLaw_size_2 : decode mi_BranchworkLaw_size.2.1 2 = .ok (.aload_n 0, 1) := by decide +kernel
theorem jd_BranchworkLaw_size_3 : decode mi_BranchworkLaw_size.2.1 3 = .ok (.iload_n 1, 1) := by decide +kernel
theorem jd_BranchworkLaw_size_4 : decode mi_BranchworkLaw_size.2.1 4 = .ok (.iload_n 2, 1) := by decide +kernel
theorem jd_BranchworkLaw_size_5 : decode mi_BranchworkLaw_size.2.1 5 = .ok (.invokevirtual 67, 3) := by decide +kernel
theorem jd_BranchworkLaw_size_8 : decode mi_BranchworkLaw_size.2.1 8 = .ok (.i2l, 1) := by decide +kernel
theorem jd_BranchworkLaw_size_9 : decode mi_BranchworkLaw_size.2.1 9 = .ok (.lastore, 1) := by decide +kernel
theorem jd_BranchworkLaw_size_10 : decode mi_BranchworkLaw_size.2.1 10 = .ok (.goto 7, 3) := by decide +kernel
theorem jd_BranchworkLaw_size_13 : decode mi_BranchworkLaw_size.2.1 13 = .ok (.astore 4, 2) := by decide +kernel
theorem jd_BranchworkLaw_size_15 : decode mi_BranchworkLaw_size.2.1 15 = .ok (.iconst 1, 1) := by decide +kernel
theorem jd_BranchworkLaw_size_16 : decode mi_BranchworkLaw_size.2.1 16 = .ok (.ireturn, 1) := by decide +kernel
theorem jd_BranchworkLaw_size_17 : decode mi_BranchworkLaw_size.2.1 17 = .ok (.iconst 0, 1) := by decide +kernel
theorem jd_BranchworkLaw_size_18 : decode mi_BranchworkLaw_size.2.1 18 = .ok (.ireturn, 1) := by decide +kernel
theorem jd_BranchworkLaw_conflict_0 : decode mi_BranchworkLaw_conflict.2.1 0 = .ok (.aload_n 3, 1) := by decide +kernel
theorem jd_BranchworkLaw_conflict_1 : decode mi_BranchworkLaw_conflict.2.1 1 = .ok (.iconst 0, 1) := by decide +kernel
theorem jd_BranchworkLaw_conflict_2 : decode mi_BranchworkLaw_conflict.2.1 2 = .ok (.aload_n 0, 1) := by decide +kernel
theorem jd_BranchworkLaw_conflict_3 : decode mi_BranchworkLaw_conflict.2.1 3 = .ok (.iload_n 1, 1) := by decide +kernel
theorem jd_BranchworkLaw_conflict_4 : decode mi_BranchworkLaw_conflict.2.1 4 = .ok (.iload_n 2, 1) := by decide +kernel
theorem jd_BranchworkLaw_conflict_5 : decode mi_BranchworkLaw_conflict.2.1 5 = .ok (.invokevirtual 70, 3) := by decide +kernel
theorem jd_BranchworkLaw_conflict_8 : decode mi_BranchworkLaw_conflict.2.1 8 = .ok (.i2l, 1) := by decide +kernel
theorem jd_BranchworkLaw_conflict_9 : decode mi_BranchworkLaw_conflict.2.1 9 = .ok (.lastore, 1) := by decide +kernel
theorem jd_BranchworkLaw_conflict_10 : decode mi_BranchworkLaw_conflict.2.1 10 = .ok (.goto 11, 3) := by decide +kernel
theorem jd_BranchworkLaw_conflict_13 : decode mi_BranchworkLaw_conflict.2.1 13 = .ok (.astore 4, 2) := by decide +kernel
theorem jd_BranchworkLaw_conflict_15 : decode mi_BranchworkLaw_conflict.2.1 15 = .ok (.iconst 1, 1) := by decide +kernel
theorem jd_BranchworkLaw_conflict_16 : decode mi_BranchworkLaw_conflict.2.1 16 = .ok (.ireturn, 1) := by decide +kernel
theorem jd_BranchworkLaw_conflict_17 : decode mi_BranchworkLaw_conflict.2.1 17 = .ok (.astore 4, 2) := by decide +kernel
theorem jd_BranchworkLaw_conflict_19 : decode mi_BranchworkLaw_conflict.2.1 19 = .ok (.iconst 2, 1) := by decide +kernel
theorem jd_BranchworkLaw_conflict_20 : decode mi_BranchworkLaw_conflict.2.1 20 = .ok (.ireturn, 1) := by decide +kernel
theorem jd_BranchworkLaw_conflict_21 : decode mi_BranchworkLaw_conflict.2.1 21 = .ok (.iconst 0, 1) := by decide +kernel
theorem jd_BranchworkLaw_conflict_22 : decode mi_BranchworkLaw_conflict.2.1 22 = .ok (.ireturn, 1) := by decide +kernel
theorem jd_BranchworkLaw_base_0 : decode mi_BranchworkLaw_base.2.1 0 = .ok (.aload_n 3, 1) := by decide +kernel
theorem jd_BranchworkLaw_base_1 : decode mi_BranchworkLaw_base.2.1 1 = .ok (.iconst 0, 1) := by decide +kernel
theorem jd_BranchworkLaw_base_2 : decode mi_BranchworkLaw_base.2.1 2 = .ok (.aload_n 0, 1) := by decide +kernel
theorem jd_BranchworkLaw_base_3 : decode mi_BranchworkLaw_base.2.1 3 = .ok (.iload_n 1, 1) := by decide +kernel
theorem jd_BranchworkLaw_base_4 : decode mi_BranchworkLaw_base.2.1 4 = .ok (.iload_n 2, 1) := by decide +kernel
theorem jd_BranchworkLaw_base_5 : decode mi_BranchworkLaw_base.2.1 5 = .ok (.invokevirtual 73, 3) := by decide +kernel
theorem jd_BranchworkLaw_base_8 : decode mi_BranchworkLaw_base.2.1 8 = .ok (.i2l, 1) := by decide +kernel
theorem jd_BranchworkLaw_base_9 : decode mi_BranchworkLaw_base.2.1 9 = .ok (.lastore, 1) := by decide +kernel
theorem jd_BranchworkLaw_base_10 : decode mi_BranchworkLaw_base.2.1 10 = .ok (.goto 7, 3) := by decide +kernel
theorem jd_BranchworkLaw_base_13 : decode mi_BranchworkLaw_base.2.1 13 = .ok (.astore 4, 2) := by decide +kernel
theorem jd_BranchworkLaw_base_15 : decode mi_BranchworkLaw_base.2.1 15 = .ok (.iconst 1, 1) := by decide +kernel
theorem jd_BranchworkLaw_base_16 : decode mi_BranchworkLaw_base.2.1 16 = .ok (.ireturn, 1) := by decide +kernel
theorem jd_BranchworkLaw_base_17 : decode mi_BranchworkLaw_base.2.1 17 = .ok (.iconst 0, 1) := by decide +kernel
theorem jd_BranchworkLaw_base_18 : decode mi_BranchworkLaw_base.2.1 18 = .ok (.ireturn, 1) := by decide +kernel
theorem jd_BranchworkLaw_went_0 : decode mi_BranchworkLaw_went.2.1 0 = .ok (.aload 4, 2) := by decide +kernel
theorem jd_BranchworkLaw_went_2 : decode mi_BranchworkLaw_went.2.1 2 = .ok (.iconst 0, 1) := by decide +kernel
theorem jd_BranchworkLaw_went_3 : decode mi_BranchworkLaw_went.2.1 3 = .ok (.aload_n 0, 1) := by decide +kernel
theorem jd_BranchworkLaw_went_4 : decode mi_BranchworkLaw_went.2.1 4 = .ok (.iload_n 1, 1) := by decide +kernel
theorem jd_BranchworkLaw_went_5 : decode mi_BranchworkLaw_went.2.1 5 = .ok (.iload_n 2, 1) := by decide +kernel
theorem jd_BranchworkLaw_went_6 : decode mi_BranchworkLaw_went.2.1 6 = .ok (.iload_n 3, 1) := by decide +kernel
theorem jd_BranchworkLaw_went_7 : decode mi_BranchworkLaw_went.2.1 7 = .ok (.invokevirtual 76, 3) := by decide +kernel
theorem jd_BranchworkLaw_went_10 : decode mi_BranchworkLaw_went.2.1 10 = .ok (.i2l, 1) := by decide +kernel
theorem jd_BranchworkLaw_went_11 : decode mi_BranchworkLaw_went.2.1 11 = .ok (.lastore, 1) := by decide +kernel
theorem jd_BranchworkLaw_went_12 : decode mi_BranchworkLaw_went.2.1 12 = .ok (.goto 7, 3) := by decide +kernel
theorem jd_BranchworkLaw_went_15 : decode mi_BranchworkLaw_went.2.1 15 = .ok (.astore 5, 2) := by decide +kernel
theorem jd_BranchworkLaw_went_17 : decode mi_BranchworkLaw_went.2.1 17 = .ok (.iconst 1, 1) := by decide +kernel
theorem jd_BranchworkLaw_went_18 : decode mi_BranchworkLaw_went.2.1 18 = .ok (.ireturn, 1) := by decide +kernel
theorem jd_BranchworkLaw_went_19 : decode mi_BranchworkLaw_went.2.1 19 = .ok (.iconst 0, 1) := by decide +kernel
theorem jd_BranchworkLaw_went_20 : decode mi_BranchworkLaw_went.2.1 20 = .ok (.ireturn, 1) := by decide +kernel
theorem jd_BranchworkLaw_changes_0 : decode mi_BranchworkLaw_changes.2.1 0 = .ok (.aload 4, 2) := by decide +kernel
theorem jd_BranchworkLaw_changes_2 : decode mi_BranchworkLaw_changes.2.1 2 = .ok (.iconst 0, 1) := by decide +kernel
theorem jd_BranchworkLaw_changes_3 : decode mi_BranchworkLaw_changes.2.1 3 = .ok (.aload_n 0, 1) := by decide +kernel
theorem jd_BranchworkLaw_changes_4 : decode mi_BranchworkLaw_changes.2.1 4 = .ok (.iload_n 1, 1) := by decide +kernel
theorem jd_BranchworkLaw_changes_5 : decode mi_BranchworkLaw_changes.2.1 5 = .ok (.iload_n 2, 1) := by decide +kernel
theorem jd_BranchworkLaw_changes_6 : decode mi_BranchworkLaw_changes.2.1 6 = .ok (.iload_n 3, 1) := by decide +kernel
theorem jd_BranchworkLaw_changes_7 : decode mi_BranchworkLaw_changes.2.1 7 = .ok (.invokevirtual 79, 3) := by decide +kernel
theorem jd_BranchworkLaw_changes_10 : decode mi_BranchworkLaw_changes.2.1 10 = .ok (.i2l, 1) := by decide +kernel
theorem jd_BranchworkLaw_changes_11 : decode mi_BranchworkLaw_changes.2.1 11 = .ok (.lastore, 1) := by decide +kernel
theorem jd_BranchworkLaw_changes_12 : decode mi_BranchworkLaw_changes.2.1 12 = .ok (.goto 11, 3) := by decide +kernel
theorem jd_BranchworkLaw_changes_15 : decode mi_BranchworkLaw_changes.2.1 15 = .ok (.astore 5, 2) := by decide +kernel
theorem jd_BranchworkLaw_changes_17 : decode mi_BranchworkLaw_changes.2.1 17 = .ok (.iconst 1, 1) := by decide +kernel
theorem jd_BranchworkLaw_changes_18 : decode mi_BranchworkLaw_changes.2.1 18 = .ok (.ireturn, 1) := by decide +kernel
theorem jd_BranchworkLaw_changes_19 : decode mi_BranchworkLaw_changes.2.1 19 = .ok (.astore 5, 2) := by decide +kernel
theorem jd_BranchworkLaw_changes_21 : decode mi_BranchworkLaw_changes.2.1 21 = .ok (.iconst 2, 1) := by decide +kernel
theorem jd_BranchworkLaw_changes_22 : decode mi_BranchworkLaw_changes.2.1 22 = .ok (.ireturn, 1) := by decide +kernel
theorem jd_BranchworkLaw_changes_23 : decode mi_BranchworkLaw_changes.2.1 23 = .ok (.iconst 0, 1) := by decide +kernel
theorem jd_BranchworkLaw_changes_24 : decode mi_BranchworkLaw_changes.2.1 24 = .ok (.ireturn, 1) := by decide +kernel
theorem jd_BranchworkLaw_nearness_0 : decode mi_BranchworkLaw_nearness.2.1 0 = .ok (.aload 5, 2) := by decide +kernel
theorem jd_BranchworkLaw_nearness_2 : decode mi_BranchworkLaw_nearness.2.1 2 = .ok (.iconst 0, 1) := by decide +kernel
theorem jd_BranchworkLaw_nearness_3 : decode mi_BranchworkLaw_nearness.2.1 3 = .ok (.aload_n 0, 1) := by decide +kernel
theorem jd_BranchworkLaw_nearness_4 : decode mi_BranchworkLaw_nearness.2.1 4 = .ok (.iload_n 1, 1) := by decide +kernel
theorem jd_BranchworkLaw_nearness_5 : decode mi_BranchworkLaw_nearness.2.1 5 = .ok (.iload_n 2, 1) := by decide +kernel
theorem jd_BranchworkLaw_nearness_6 : decode mi_BranchworkLaw_nearness.2.1 6 = .ok (.iload_n 3, 1) := by decide +kernel
theorem jd_BranchworkLaw_nearness_7 : decode mi_BranchworkLaw_nearness.2.1 7 = .ok (.iload 4, 2) := by decide +kernel
theorem jd_BranchworkLaw_nearness_9 : decode mi_BranchworkLaw_nearness.2.1 9 = .ok (.invokevirtual 82, 3) := by decide +kernel
theorem jd_BranchworkLaw_nearness_12 : decode mi_BranchworkLaw_nearness.2.1 12 = .ok (.i2l, 1) := by decide +kernel
theorem jd_BranchworkLaw_nearness_13 : decode mi_BranchworkLaw_nearness.2.1 13 = .ok (.lastore, 1) := by decide +kernel
theorem jd_BranchworkLaw_nearness_14 : decode mi_BranchworkLaw_nearness.2.1 14 = .ok (.goto 7, 3) := by decide +kernel
theorem jd_BranchworkLaw_nearness_17 : decode mi_BranchworkLaw_nearness.2.1 17 = .ok (.astore 6, 2) := by decide +kernel
theorem jd_BranchworkLaw_nearness_19 : decode mi_BranchworkLaw_nearness.2.1 19 = .ok (.iconst 1, 1) := by decide +kernel
theorem jd_BranchworkLaw_nearness_20 : decode mi_BranchworkLaw_nearness.2.1 20 = .ok (.ireturn, 1) := by decide +kernel
theorem jd_BranchworkLaw_nearness_21 : decode mi_BranchworkLaw_nearness.2.1 21 = .ok (.iconst 0, 1) := by decide +kernel
theorem jd_BranchworkLaw_nearness_22 : decode mi_BranchworkLaw_nearness.2.1 22 = .ok (.ireturn, 1) := by decide +kernel
theorem jd_BranchworkLaw_origin_0 : decode mi_BranchworkLaw_origin.2.1 0 = .ok (.aload 4, 2) := by decide +kernel
theorem jd_BranchworkLaw_origin_2 : decode mi_BranchworkLaw_origin.2.1 2 = .ok (.iconst 0, 1) := by decide +kernel
theorem jd_BranchworkLaw_origin_3 : decode mi_BranchworkLaw_origin.2.1 3 = .ok (.aload_n 0, 1) := by decide +kernel
theorem jd_BranchworkLaw_origin_4 : decode mi_BranchworkLaw_origin.2.1 4 = .ok (.iload_n 1, 1) := by decide +kernel
theorem jd_BranchworkLaw_origin_5 : decode mi_BranchworkLaw_origin.2.1 5 = .ok (.iload_n 2, 1) := by decide +kernel
theorem jd_BranchworkLaw_origin_6 : decode mi_BranchworkLaw_origin.2.1 6 = .ok (.iload_n 3, 1) := by decide +kernel
theorem jd_BranchworkLaw_origin_7 : decode mi_BranchworkLaw_origin.2.1 7 = .ok (.invokevirtual 86, 3) := by decide +kernel
theorem jd_BranchworkLaw_origin_10 : decode mi_BranchworkLaw_origin.2.1 10 = .ok (.i2l, 1) := by decide +kernel
theorem jd_BranchworkLaw_origin_11 : decode mi_BranchworkLaw_origin.2.1 11 = .ok (.lastore, 1) := by decide +kernel
theorem jd_BranchworkLaw_origin_12 : decode mi_BranchworkLaw_origin.2.1 12 = .ok (.goto 7, 3) := by decide +kernel
theorem jd_BranchworkLaw_origin_15 : decode mi_BranchworkLaw_origin.2.1 15 = .ok (.astore 5, 2) := by decide +kernel
theorem jd_BranchworkLaw_origin_17 : decode mi_BranchworkLaw_origin.2.1 17 = .ok (.iconst 1, 1) := by decide +kernel
theorem jd_BranchworkLaw_origin_18 : decode mi_BranchworkLaw_origin.2.1 18 = .ok (.ireturn, 1) := by decide +kernel
theorem jd_BranchworkLaw_origin_19 : decode mi_BranchworkLaw_origin.2.1 19 = .ok (.iconst 0, 1) := by decide +kernel
theorem jd_BranchworkLaw_origin_20 : decode mi_BranchworkLaw_origin.2.1 20 = .ok (.ireturn, 1) := by decide +kernel
theorem jd_BranchworkLaw_conflictsOf_0 : decode mi_BranchworkLaw_conflictsOf.2.1 0 = .ok (.aload_n 3, 1) := by decide +kernel
theorem jd_BranchworkLaw_conflictsOf_1 : decode mi_BranchworkLaw_conflictsOf.2.1 1 = .ok (.iconst 0, 1) := by decide +kernel
theorem jd_BranchworkLaw_conflictsOf_2 : decode mi_BranchworkLaw_conflictsOf.2.1 2 = .ok (.aload_n 0, 1) := by decide +kernel
theorem jd_BranchworkLaw_conflictsOf_3 : decode mi_BranchworkLaw_conflictsOf.2.1 3 = .ok (.iload_n 1, 1) := by decide +kernel
theorem jd_BranchworkLaw_conflictsOf_4 : decode mi_BranchworkLaw_conflictsOf.2.1 4 = .ok (.iload_n 2, 1) := by decide +kernel
theorem jd_BranchworkLaw_conflictsOf_5 : decode mi_BranchworkLaw_conflictsOf.2.1 5 = .ok (.invokevirtual 89, 3) := by decide +kernel
theorem jd_BranchworkLaw_conflictsOf_8 : decode mi_BranchworkLaw_conflictsOf.2.1 8 = .ok (.i2l, 1) := by decide +kernel
theorem jd_BranchworkLaw_conflictsOf_9 : decode mi_BranchworkLaw_conflictsOf.2.1 9 = .ok (.lastore, 1) := by decide +kernel
theorem jd_BranchworkLaw_conflictsOf_10 : decode mi_BranchworkLaw_conflictsOf.2.1 10 = .ok (.goto 7, 3) := by decide +kernel
theorem jd_BranchworkLaw_conflictsOf_13 : decode mi_BranchworkLaw_conflictsOf.2.1 13 = .ok (.astore 4, 2) := by decide +kernel
theorem jd_BranchworkLaw_conflictsOf_15 : decode mi_BranchworkLaw_conflictsOf.2.1 15 = .ok (.iconst 1, 1) := by decide +kernel
theorem jd_BranchworkLaw_conflictsOf_16 : decode mi_BranchworkLaw_conflictsOf.2.1 16 = .ok (.ireturn, 1) := by decide +kernel
theorem jd_BranchworkLaw_conflictsOf_17 : decode mi_BranchworkLaw_conflictsOf.2.1 17 = .ok (.iconst 0, 1) := by decide +kernel
theorem jd_BranchworkLaw_conflictsOf_18 : decode mi_BranchworkLaw_conflictsOf.2.1 18 = .ok (.ireturn, 1) := by decide +kernel
section
variable {o : jw_O} {μ : jw_Mem} {hs b L : Nat} {f : Nat → Int64}
theorem bh_put (h : bw_New o μ b) (hL : μ L = some (.inl (o.2.2.1 4, 1, .inr (.inl f)))) (hLb : L < b ∨ b + 984 ≤ L) (x0 x1 x2 : Int32) : jh_F mi_BranchworkLaw_put jh_put o [.ref b, .int x0, .int x1, .int x2, .ref L] μ hs b L (kx_put x0 x1 x2) (nI 1) := by
  refine jw_specH (by decide +kernel) (Nat.le_of_ble_eq_true rfl) rfl (fun k hR hE hT => ?_)
  have h0 := h.1
  refine jw_aload (pc' := 2) jd_BranchworkLaw_put_0 rfl rfl ?_
  refine jw_iconst (pc' := 3) (v := nI 0) jd_BranchworkLaw_put_2 (by decide +kernel) rfl ?_
  refine jw_aload_n (pc' := 4) jd_BranchworkLaw_put_3 rfl rfl rfl ?_
  refine jw_iload_n (pc' := 5) jd_BranchworkLaw_put_4 rfl rfl rfl ?_
  refine jw_iload_n (pc' := 6) jd_BranchworkLaw_put_5 rfl rfl rfl ?_
  refine jw_iload_n (pc' := 7) jd_BranchworkLaw_put_6 rfl rfl rfl ?_
  refine jw_callVX (pc' := 10) hR (by_put h x0 x1 x2) jm_Branchwork_put jq_603 jc_Branchwork jd_BranchworkLaw_put_7 (by assumption) rfl rfl (Nat.le_of_ble_eq_true rfl) (by omega) (by decide) (by omega) (by omega) rfl (fun E q9 μ9 s9 hΨ hle9 => ?_) (fun v μ s9 q9 hle => ?_)
  · obtain ⟨⟨i, hi, hn⟩, hFr⟩ := hΨ
    rcases i with _ | _ | _ | i
    · obtain rfl : E = jx_IO := (Option.some.inj hi).symm
      refine jw_catch (pc' := 15) (pre := []) (x := ⟨0, 12, 15, 13⟩) (suf := [⟨0, 12, 19, 15⟩, ⟨0, 12, 23, 17⟩]) (name := jx_IO) hT (fun z hz => by cases hz) (by decide) (by decide) jq_600 (by decide +kernel) rfl ?_
      refine jw_astore (pc' := 17) (lc' := [(0, _), (1, _), (2, _), (3, _), (4, _), (5, _)]) jd_BranchworkLaw_put_15 (Nat.le_of_ble_eq_true rfl) ⟨rfl, rfl, rfl, rfl, rfl, rfl, trivial⟩ rfl ?_
      refine jw_iconst (pc' := 18) (v := nI 1) jd_BranchworkLaw_put_17 (by decide +kernel) rfl ?_
      refine jw_iret hE jd_BranchworkLaw_put_18 rfl (by omega) (by omega) ?_
      exact ⟨congrArg (fun z => some (Value.int (nI z))) hn.symm, ⟨_, (hFr _ hLb).trans hL, fun z => by omega⟩, fun q z _ => hFr q z⟩
    · obtain rfl : E = jx_IA := (Option.some.inj hi).symm
      refine jw_catch (pc' := 19) (pre := [⟨0, 12, 15, 13⟩]) (x := ⟨0, 12, 19, 15⟩) (suf := [⟨0, 12, 23, 17⟩]) (name := jx_IA) hT (fun z hz => by
          simp only [List.mem_cons, List.not_mem_nil, or_false] at hz
          rcases hz with rfl
          · exact Or.inr ⟨by decide, jx_IO, jq_600, by decide +kernel⟩) (by decide) (by decide) jq_601 (by decide +kernel) rfl ?_
      refine jw_astore (pc' := 21) (lc' := [(0, _), (1, _), (2, _), (3, _), (4, _), (5, _)]) jd_BranchworkLaw_put_19 (Nat.le_of_ble_eq_true rfl) ⟨rfl, rfl, rfl, rfl, rfl, rfl, trivial⟩ rfl ?_
      refine jw_iconst (pc' := 22) (v := nI 2) jd_BranchworkLaw_put_21 (by decide +kernel) rfl ?_
      refine jw_iret hE jd_BranchworkLaw_put_22 rfl (by omega) (by omega) ?_
      exact ⟨congrArg (fun z => some (Value.int (nI z))) hn.symm, ⟨_, (hFr _ hLb).trans hL, fun z => by omega⟩, fun q z _ => hFr q z⟩
    · obtain rfl : E = jx_IS := (Option.some.inj hi).symm
      refine jw_catch (pc' := 23) (pre := [⟨0, 12, 15, 13⟩, ⟨0, 12, 19, 15⟩]) (x := ⟨0, 12, 23, 17⟩) (suf := []) (name := jx_IS) hT (fun z hz => by
          simp only [List.mem_cons, List.not_mem_nil, or_false] at hz
          rcases hz with rfl | rfl
          · exact Or.inr ⟨by decide, jx_IO, jq_600, by decide +kernel⟩
          · exact Or.inr ⟨by decide, jx_IA, jq_601, by decide +kernel⟩) (by decide) (by decide) jq_602 (by decide +kernel) rfl ?_
      refine jw_astore (pc' := 25) (lc' := [(0, _), (1, _), (2, _), (3, _), (4, _), (5, _)]) jd_BranchworkLaw_put_23 (Nat.le_of_ble_eq_true rfl) ⟨rfl, rfl, rfl, rfl, rfl, rfl, trivial⟩ rfl ?_
      refine jw_iconst (pc' := 26) (v := nI 3) jd_BranchworkLaw_put_25 (by decide +kernel) rfl ?_
      refine jw_iret hE jd_BranchworkLaw_put_26 rfl (by omega) (by omega) ?_
      exact ⟨congrArg (fun z => some (Value.int (nI z))) hn.symm, ⟨_, (hFr _ hLb).trans hL, fun z => by omega⟩, fun q z _ => hFr q z⟩
    · exact absurd hi (by simp)
  obtain ⟨rfl, hn, hFr⟩ := q9
  have hL := (hFr _ hLb).trans hL
  refine jw_i2l (pc' := 11) jd_BranchworkLaw_put_10 rfl rfl ?_
  refine jw_last (pc' := 12) (i := 4) jd_BranchworkLaw_put_11 (by assumption) rfl (vp_in_nI (n := 0) (by omega) (by omega)) rfl (fun μ hL f9 => ?_)
  refine jw_goto (tgt := 27) jd_BranchworkLaw_put_12 (by decide) ?_
  refine jw_iconst (pc' := 28) (v := nI 0) jd_BranchworkLaw_put_27 (by decide +kernel) rfl ?_
  refine jw_iret hE jd_BranchworkLaw_put_28 rfl (by omega) (by omega) ?_
  exact ⟨congrArg (fun z => some (Value.int (nI z))) hn.symm, ⟨_, hL, fun _ => jv_upd⟩, fun q z z2 => (f9 q z2).trans (hFr q z)⟩
theorem bh_cut (h : bw_New o μ b) (hL : μ L = some (.inl (o.2.2.1 4, 1, .inr (.inl f)))) (hLb : L < b ∨ b + 984 ≤ L) (x0 x1 : Int32) : jh_F mi_BranchworkLaw_cut jh_cut o [.ref b, .int x0, .int x1, .ref L] μ hs b L (1) 0 := by
  refine jw_specH (by decide +kernel) (Nat.le_of_ble_eq_true rfl) rfl (fun k hR hE hT => ?_)
  have h0 := h.1
  refine jw_aload_n (pc' := 1) jd_BranchworkLaw_cut_0 rfl rfl rfl ?_
  refine jw_iconst (pc' := 2) (v := nI 0) jd_BranchworkLaw_cut_1 (by decide +kernel) rfl ?_
  refine jw_aload_n (pc' := 3) jd_BranchworkLaw_cut_2 rfl rfl rfl ?_
  refine jw_iload_n (pc' := 4) jd_BranchworkLaw_cut_3 rfl rfl rfl ?_
  refine jw_iload_n (pc' := 5) jd_BranchworkLaw_cut_4 rfl rfl rfl ?_
  refine jw_callVX (pc' := 8) hR (by_cut h x0 x1) jm_Branchwork_cut jq_636 jc_Branchwork jd_BranchworkLaw_cut_5 (by assumption) rfl rfl (Nat.le_of_ble_eq_true rfl) (by omega) (by decide) (by omega) (by omega) rfl (fun E q9 μ9 s9 hΨ hle9 => ?_) (fun v μ s9 q9 hle => ?_)
  · obtain ⟨⟨i, hi, hn⟩, hFr⟩ := hΨ
    rcases i with _ | i
    · obtain rfl : E = jx_IO := (Option.some.inj hi).symm
      refine jw_catch (pc' := 13) (pre := []) (x := ⟨0, 10, 13, 13⟩) (suf := []) (name := jx_IO) hT (fun z hz => by cases hz) (by decide) (by decide) jq_600 (by decide +kernel) rfl ?_
      refine jw_astore (pc' := 15) (lc' := [(0, _), (1, _), (2, _), (3, _), (4, _)]) jd_BranchworkLaw_cut_13 (Nat.le_of_ble_eq_true rfl) ⟨rfl, rfl, rfl, rfl, rfl, trivial⟩ rfl ?_
      refine jw_iconst (pc' := 16) (v := nI 1) jd_BranchworkLaw_cut_15 (by decide +kernel) rfl ?_
      refine jw_iret hE jd_BranchworkLaw_cut_16 rfl (by omega) (by omega) ?_
      exact ⟨congrArg (fun z => some (Value.int (nI z))) hn.symm, ⟨_, (hFr _ hLb).trans hL, fun z => by omega⟩, fun q z _ => hFr q z⟩
    · exact absurd hi (by simp)
  obtain ⟨rfl, hn, hFr⟩ := q9
  exact absurd hn (by decide)
theorem bh_rename (h : bw_New o μ b) (hL : μ L = some (.inl (o.2.2.1 4, 1, .inr (.inl f)))) (hLb : L < b ∨ b + 984 ≤ L) (x0 x1 : Int32) : jh_F mi_BranchworkLaw_rename jh_rename o [.ref b, .int x0, .int x1, .ref L] μ hs b L (1) 0 := by
  refine jw_specH (by decide +kernel) (Nat.le_of_ble_eq_true rfl) rfl (fun k hR hE hT => ?_)
  have h0 := h.1
  refine jw_aload_n (pc' := 1) jd_BranchworkLaw_rename_0 rfl rfl rfl ?_
  refine jw_iconst (pc' := 2) (v := nI 0) jd_BranchworkLaw_rename_1 (by decide +kernel) rfl ?_
  refine jw_aload_n (pc' := 3) jd_BranchworkLaw_rename_2 rfl rfl rfl ?_
  refine jw_iload_n (pc' := 4) jd_BranchworkLaw_rename_3 rfl rfl rfl ?_
  refine jw_iload_n (pc' := 5) jd_BranchworkLaw_rename_4 rfl rfl rfl ?_
  refine jw_callVX (pc' := 8) hR (by_rename h x0 x1) jm_Branchwork_rename jq_659 jc_Branchwork jd_BranchworkLaw_rename_5 (by assumption) rfl rfl (Nat.le_of_ble_eq_true rfl) (by omega) (by decide) (by omega) (by omega) rfl (fun E q9 μ9 s9 hΨ hle9 => ?_) (fun v μ s9 q9 hle => ?_)
  · obtain ⟨⟨i, hi, hn⟩, hFr⟩ := hΨ
    rcases i with _ | _ | i
    · obtain rfl : E = jx_IO := (Option.some.inj hi).symm
      refine jw_catch (pc' := 13) (pre := []) (x := ⟨0, 10, 13, 13⟩) (suf := [⟨0, 10, 17, 17⟩]) (name := jx_IO) hT (fun z hz => by cases hz) (by decide) (by decide) jq_600 (by decide +kernel) rfl ?_
      refine jw_astore (pc' := 15) (lc' := [(0, _), (1, _), (2, _), (3, _), (4, _)]) jd_BranchworkLaw_rename_13 (Nat.le_of_ble_eq_true rfl) ⟨rfl, rfl, rfl, rfl, rfl, trivial⟩ rfl ?_
      refine jw_iconst (pc' := 16) (v := nI 1) jd_BranchworkLaw_rename_15 (by decide +kernel) rfl ?_
      refine jw_iret hE jd_BranchworkLaw_rename_16 rfl (by omega) (by omega) ?_
      exact ⟨congrArg (fun z => some (Value.int (nI z))) hn.symm, ⟨_, (hFr _ hLb).trans hL, fun z => by omega⟩, fun q z _ => hFr q z⟩
    · obtain rfl : E = jx_IS := (Option.some.inj hi).symm
      refine jw_catch (pc' := 17) (pre := [⟨0, 10, 13, 13⟩]) (x := ⟨0, 10, 17, 17⟩) (suf := []) (name := jx_IS) hT (fun z hz => by
          simp only [List.mem_cons, List.not_mem_nil, or_false] at hz
          rcases hz with rfl
          · exact Or.inr ⟨by decide, jx_IO, jq_600, by decide +kernel⟩) (by decide) (by decide) jq_602 (by decide +kernel) rfl ?_
      refine jw_astore (pc' := 19) (lc' := [(0, _), (1, _), (2, _), (3, _), (4, _)]) jd_BranchworkLaw_rename_17 (Nat.le_of_ble_eq_true rfl) ⟨rfl, rfl, rfl, rfl, rfl, trivial⟩ rfl ?_
      refine jw_iconst (pc' := 20) (v := nI 2) jd_BranchworkLaw_rename_19 (by decide +kernel) rfl ?_
      refine jw_iret hE jd_BranchworkLaw_rename_20 rfl (by omega) (by omega) ?_
      exact ⟨congrArg (fun z => some (Value.int (nI z))) hn.symm, ⟨_, (hFr _ hLb).trans hL, fun z => by omega⟩, fun q z _ => hFr q z⟩
    · exact absurd hi (by simp)
  obtain ⟨rfl, hn, hFr⟩ := q9
  exact absurd hn (by decide)
theorem bh_remove (h : bw_New o μ b) (hL : μ L = some (.inl (o.2.2.1 4, 1, .inr (.inl f)))) (hLb : L < b ∨ b + 984 ≤ L) (x0 : Int32) : jh_F mi_BranchworkLaw_remove jh_remove o [.ref b, .int x0, .ref L] μ hs b L (1) 0 := by
  refine jw_specH (by decide +kernel) (Nat.le_of_ble_eq_true rfl) rfl (fun k hR hE hT => ?_)
  have h0 := h.1
  refine jw_aload_n (pc' := 1) jd_BranchworkLaw_remove_0 rfl rfl rfl ?_
  refine jw_iconst (pc' := 2) (v := nI 0) jd_BranchworkLaw_remove_1 (by decide +kernel) rfl ?_
  refine jw_aload_n (pc' := 3) jd_BranchworkLaw_remove_2 rfl rfl rfl ?_
  refine jw_iload_n (pc' := 4) jd_BranchworkLaw_remove_3 rfl rfl rfl ?_
  refine jw_callVX (pc' := 7) hR (by_remove h x0) jm_Branchwork_remove jq_678 jc_Branchwork jd_BranchworkLaw_remove_4 (by assumption) rfl rfl (Nat.le_of_ble_eq_true rfl) (by omega) (by decide) (by omega) (by omega) rfl (fun E q9 μ9 s9 hΨ hle9 => ?_) (fun v μ s9 q9 hle => ?_)
  · obtain ⟨⟨i, hi, hn⟩, hFr⟩ := hΨ
    rcases i with _ | i
    · obtain rfl : E = jx_IO := (Option.some.inj hi).symm
      refine jw_catch (pc' := 12) (pre := []) (x := ⟨0, 9, 12, 13⟩) (suf := []) (name := jx_IO) hT (fun z hz => by cases hz) (by decide) (by decide) jq_600 (by decide +kernel) rfl ?_
      refine jw_astore_n (pc' := 13) (lc' := [(0, _), (1, _), (2, _), (3, _)]) jd_BranchworkLaw_remove_12 rfl (Nat.le_of_ble_eq_true rfl) ⟨rfl, rfl, rfl, rfl, trivial⟩ rfl ?_
      refine jw_iconst (pc' := 14) (v := nI 1) jd_BranchworkLaw_remove_13 (by decide +kernel) rfl ?_
      refine jw_iret hE jd_BranchworkLaw_remove_14 rfl (by omega) (by omega) ?_
      exact ⟨congrArg (fun z => some (Value.int (nI z))) hn.symm, ⟨_, (hFr _ hLb).trans hL, fun z => by omega⟩, fun q z _ => hFr q z⟩
    · exact absurd hi (by simp)
  obtain ⟨rfl, hn, hFr⟩ := q9
  exact absurd hn (by decide)
theorem bh_status (h : bw_New o μ b) (hL : μ L = some (.inl (o.2.2.1 4, 1, .inr (.inl f)))) (hLb : L < b ∨ b + 984 ≤ L) (x0 : Int32) : jh_F mi_BranchworkLaw_status jh_status o [.ref b, .int x0, .ref L] μ hs b L (kx_path x0) (nI 0) := by
  refine jw_specH (by decide +kernel) (Nat.le_of_ble_eq_true rfl) rfl (fun k hR hE hT => ?_)
  have h0 := h.1
  refine jw_aload_n (pc' := 1) jd_BranchworkLaw_status_0 rfl rfl rfl ?_
  refine jw_iconst (pc' := 2) (v := nI 0) jd_BranchworkLaw_status_1 (by decide +kernel) rfl ?_
  refine jw_aload_n (pc' := 3) jd_BranchworkLaw_status_2 rfl rfl rfl ?_
  refine jw_iload_n (pc' := 4) jd_BranchworkLaw_status_3 rfl rfl rfl ?_
  refine jw_callVX (pc' := 7) hR (by_status0 h x0) jm_Branchwork_status jq_685 jc_Branchwork jd_BranchworkLaw_status_4 (by assumption) rfl rfl (Nat.le_of_ble_eq_true rfl) (by omega) (by decide) (by omega) (by omega) rfl (fun E q9 μ9 s9 hΨ hle9 => ?_) (fun v μ s9 q9 hle => ?_)
  · obtain ⟨rfl, hn, rfl⟩ := hΨ
    refine jw_catch (pc' := 12) (pre := []) (x := ⟨0, 9, 12, 13⟩) (suf := []) (name := jx_IO) hT (fun z hz => by cases hz) (by decide) (by decide) jq_600 (by decide +kernel) rfl ?_
    refine jw_astore_n (pc' := 13) (lc' := [(0, _), (1, _), (2, _), (3, _)]) jd_BranchworkLaw_status_12 rfl (Nat.le_of_ble_eq_true rfl) ⟨rfl, rfl, rfl, rfl, trivial⟩ rfl ?_
    refine jw_iconst (pc' := 14) (v := nI 1) jd_BranchworkLaw_status_13 (by decide +kernel) rfl ?_
    refine jw_iret hE jd_BranchworkLaw_status_14 rfl (by omega) (by omega) ?_
    exact ⟨congrArg (fun z => some (Value.int (nI z))) hn.symm, ⟨_, hL, fun z => by omega⟩, fun q z _ => rfl⟩
  obtain ⟨rfl, hn, rfl, rfl⟩ := q9
  refine jw_i2l (pc' := 8) jd_BranchworkLaw_status_7 rfl rfl ?_
  refine jw_last (pc' := 9) (i := 4) jd_BranchworkLaw_status_8 (by assumption) rfl (vp_in_nI (n := 0) (by omega) (by omega)) rfl (fun μ hL f9 => ?_)
  refine jw_goto (tgt := 15) jd_BranchworkLaw_status_9 (by decide) ?_
  refine jw_iconst (pc' := 16) (v := nI 0) jd_BranchworkLaw_status_15 (by decide +kernel) rfl ?_
  refine jw_iret hE jd_BranchworkLaw_status_16 rfl (by omega) (by omega) ?_
  exact ⟨congrArg (fun z => some (Value.int (nI z))) hn.symm, ⟨_, hL, fun _ => jv_upd⟩, fun q z z2 => (f9 q z2).trans (rfl)⟩
theorem bh_commit (h : bw_New o μ b) (hL : μ L = some (.inl (o.2.2.1 4, 1, .inr (.inl f)))) (hLb : L < b ∨ b + 984 ≤ L) (x0 : Int32) : jh_F mi_BranchworkLaw_commit jh_commit o [.ref b, .int x0, .ref L] μ hs b L (kx_commit x0) 0 := by
  refine jw_specH (by decide +kernel) (Nat.le_of_ble_eq_true rfl) rfl (fun k hR hE hT => ?_)
  have h0 := h.1
  refine jw_aload_n (pc' := 1) jd_BranchworkLaw_commit_0 rfl rfl rfl ?_
  refine jw_iconst (pc' := 2) (v := nI 0) jd_BranchworkLaw_commit_1 (by decide +kernel) rfl ?_
  refine jw_aload_n (pc' := 3) jd_BranchworkLaw_commit_2 rfl rfl rfl ?_
  refine jw_iload_n (pc' := 4) jd_BranchworkLaw_commit_3 rfl rfl rfl ?_
  refine jw_callVX (pc' := 7) hR (by_commit h x0) jm_Branchwork_commit jq_689 jc_Branchwork jd_BranchworkLaw_commit_4 (by assumption) rfl rfl (Nat.le_of_ble_eq_true rfl) (by omega) (by decide) (by omega) (by omega) rfl (fun E q9 μ9 s9 hΨ hle9 => ?_) (fun v μ s9 q9 hle => ?_)
  · obtain ⟨⟨i, hi, hn⟩, hFr⟩ := hΨ
    rcases i with _ | _ | i
    · obtain rfl : E = jx_IA := (Option.some.inj hi).symm
      refine jw_catch (pc' := 12) (pre := []) (x := ⟨0, 9, 12, 15⟩) (suf := [⟨0, 9, 15, 17⟩]) (name := jx_IA) hT (fun z hz => by cases hz) (by decide) (by decide) jq_601 (by decide +kernel) rfl ?_
      refine jw_astore_n (pc' := 13) (lc' := [(0, _), (1, _), (2, _), (3, _)]) jd_BranchworkLaw_commit_12 rfl (Nat.le_of_ble_eq_true rfl) ⟨rfl, rfl, rfl, rfl, trivial⟩ rfl ?_
      refine jw_iconst (pc' := 14) (v := nI 1) jd_BranchworkLaw_commit_13 (by decide +kernel) rfl ?_
      refine jw_iret hE jd_BranchworkLaw_commit_14 rfl (by omega) (by omega) ?_
      exact ⟨congrArg (fun z => some (Value.int (nI z))) hn.symm, ⟨_, (hFr _ hLb).trans hL, fun z => by omega⟩, fun q z _ => hFr q z⟩
    · obtain rfl : E = jx_IS := (Option.some.inj hi).symm
      refine jw_catch (pc' := 15) (pre := [⟨0, 9, 12, 15⟩]) (x := ⟨0, 9, 15, 17⟩) (suf := []) (name := jx_IS) hT (fun z hz => by
          simp only [List.mem_cons, List.not_mem_nil, or_false] at hz
          rcases hz with rfl
          · exact Or.inr ⟨by decide, jx_IA, jq_601, by decide +kernel⟩) (by decide) (by decide) jq_602 (by decide +kernel) rfl ?_
      refine jw_astore_n (pc' := 16) (lc' := [(0, _), (1, _), (2, _), (3, _)]) jd_BranchworkLaw_commit_15 rfl (Nat.le_of_ble_eq_true rfl) ⟨rfl, rfl, rfl, rfl, trivial⟩ rfl ?_
      refine jw_iconst (pc' := 17) (v := nI 2) jd_BranchworkLaw_commit_16 (by decide +kernel) rfl ?_
      refine jw_iret hE jd_BranchworkLaw_commit_17 rfl (by omega) (by omega) ?_
      exact ⟨congrArg (fun z => some (Value.int (nI z))) hn.symm, ⟨_, (hFr _ hLb).trans hL, fun z => by omega⟩, fun q z _ => hFr q z⟩
    · exact absurd hi (by simp)
  obtain ⟨rfl, hn, hFr⟩ := q9
  have hL := (hFr _ hLb).trans hL
  refine jw_i2l (pc' := 8) jd_BranchworkLaw_commit_7 rfl rfl ?_
  refine jw_last (pc' := 9) (i := 4) jd_BranchworkLaw_commit_8 (by assumption) rfl (vp_in_nI (n := 0) (by omega) (by omega)) rfl (fun μ hL f9 => ?_)
  refine jw_goto (tgt := 18) jd_BranchworkLaw_commit_9 (by decide) ?_
  refine jw_iconst (pc' := 19) (v := nI 0) jd_BranchworkLaw_commit_18 (by decide +kernel) rfl ?_
  refine jw_iret hE jd_BranchworkLaw_commit_19 rfl (by omega) (by omega) ?_
  exact ⟨congrArg (fun z => some (Value.int (nI z))) hn.symm, ⟨_, hL, fun _ => jv_upd⟩, fun q z z2 => (f9 q z2).trans (hFr q z)⟩
theorem bh_branch (h : bw_New o μ b) (hL : μ L = some (.inl (o.2.2.1 4, 1, .inr (.inl f)))) (hLb : L < b ∨ b + 984 ≤ L) : jh_F mi_BranchworkLaw_branch jh_branch o [.ref b, .ref L] μ hs b L (1) 0 := by
  refine jw_specH (by decide +kernel) (Nat.le_of_ble_eq_true rfl) rfl (fun k hR hE hT => ?_)
  have h0 := h.1
  refine jw_aload_n (pc' := 1) jd_BranchworkLaw_branch_0 rfl rfl rfl ?_
  refine jw_iconst (pc' := 2) (v := nI 0) jd_BranchworkLaw_branch_1 (by decide +kernel) rfl ?_
  refine jw_aload_n (pc' := 3) jd_BranchworkLaw_branch_2 rfl rfl rfl ?_
  refine jw_callVX (pc' := 6) hR (by_branch h ) jm_Branchwork_branch jq_733 jc_Branchwork jd_BranchworkLaw_branch_3 (by assumption) rfl rfl (Nat.le_of_ble_eq_true rfl) (by omega) (by decide) (by omega) (by omega) rfl (fun E q9 μ9 s9 hΨ hle9 => ?_) (fun v μ s9 q9 hle => ?_)
  · obtain ⟨⟨i, hi, hn⟩, hFr⟩ := hΨ
    rcases i with _ | i
    · obtain rfl : E = jx_IS := (Option.some.inj hi).symm
      refine jw_catch (pc' := 11) (pre := []) (x := ⟨0, 8, 11, 17⟩) (suf := []) (name := jx_IS) hT (fun z hz => by cases hz) (by decide) (by decide) jq_602 (by decide +kernel) rfl ?_
      refine jw_astore_n (pc' := 12) (lc' := [(0, _), (1, _), (2, _)]) jd_BranchworkLaw_branch_11 rfl (Nat.le_of_ble_eq_true rfl) ⟨rfl, rfl, rfl, trivial⟩ rfl ?_
      refine jw_iconst (pc' := 13) (v := nI 1) jd_BranchworkLaw_branch_12 (by decide +kernel) rfl ?_
      refine jw_iret hE jd_BranchworkLaw_branch_13 rfl (by omega) (by omega) ?_
      exact ⟨congrArg (fun z => some (Value.int (nI z))) hn.symm, ⟨_, (hFr _ hLb).trans hL, fun z => by omega⟩, fun q z _ => hFr q z⟩
    · exact absurd hi (by simp)
  obtain ⟨rfl, hn, hFr⟩ := q9
  exact absurd hn (by decide)
theorem bh_change (h : bw_New o μ b) (hL : μ L = some (.inl (o.2.2.1 4, 1, .inr (.inl f)))) (hLb : L < b ∨ b + 984 ≤ L) (x0 : Int32) : jh_F mi_BranchworkLaw_change jh_change o [.ref b, .int x0, .ref L] μ hs b L (kx_z x0) 0 := by
  refine jw_specH (by decide +kernel) (Nat.le_of_ble_eq_true rfl) rfl (fun k hR hE hT => ?_)
  have h0 := h.1
  refine jw_aload_n (pc' := 1) jd_BranchworkLaw_change_0 rfl rfl rfl ?_
  refine jw_iconst (pc' := 2) (v := nI 0) jd_BranchworkLaw_change_1 (by decide +kernel) rfl ?_
  refine jw_aload_n (pc' := 3) jd_BranchworkLaw_change_2 rfl rfl rfl ?_
  refine jw_iload_n (pc' := 4) jd_BranchworkLaw_change_3 rfl rfl rfl ?_
  refine jw_callVX (pc' := 7) hR (by_change h x0) jm_Branchwork_change jq_742 jc_Branchwork jd_BranchworkLaw_change_4 (by assumption) rfl rfl (Nat.le_of_ble_eq_true rfl) (by omega) (by decide) (by omega) (by omega) rfl (fun E q9 μ9 s9 hΨ hle9 => ?_) (fun v μ s9 q9 hle => ?_)
  · obtain ⟨⟨i, hi, hn⟩, hFr⟩ := hΨ
    rcases i with _ | _ | i
    · obtain rfl : E = jx_IO := (Option.some.inj hi).symm
      refine jw_catch (pc' := 12) (pre := []) (x := ⟨0, 9, 12, 13⟩) (suf := [⟨0, 9, 15, 17⟩]) (name := jx_IO) hT (fun z hz => by cases hz) (by decide) (by decide) jq_600 (by decide +kernel) rfl ?_
      refine jw_astore_n (pc' := 13) (lc' := [(0, _), (1, _), (2, _), (3, _)]) jd_BranchworkLaw_change_12 rfl (Nat.le_of_ble_eq_true rfl) ⟨rfl, rfl, rfl, rfl, trivial⟩ rfl ?_
      refine jw_iconst (pc' := 14) (v := nI 1) jd_BranchworkLaw_change_13 (by decide +kernel) rfl ?_
      refine jw_iret hE jd_BranchworkLaw_change_14 rfl (by omega) (by omega) ?_
      exact ⟨congrArg (fun z => some (Value.int (nI z))) hn.symm, ⟨_, (hFr _ hLb).trans hL, fun z => by omega⟩, fun q z _ => hFr q z⟩
    · obtain rfl : E = jx_IS := (Option.some.inj hi).symm
      refine jw_catch (pc' := 15) (pre := [⟨0, 9, 12, 13⟩]) (x := ⟨0, 9, 15, 17⟩) (suf := []) (name := jx_IS) hT (fun z hz => by
          simp only [List.mem_cons, List.not_mem_nil, or_false] at hz
          rcases hz with rfl
          · exact Or.inr ⟨by decide, jx_IO, jq_600, by decide +kernel⟩) (by decide) (by decide) jq_602 (by decide +kernel) rfl ?_
      refine jw_astore_n (pc' := 16) (lc' := [(0, _), (1, _), (2, _), (3, _)]) jd_BranchworkLaw_change_15 rfl (Nat.le_of_ble_eq_true rfl) ⟨rfl, rfl, rfl, rfl, trivial⟩ rfl ?_
      refine jw_iconst (pc' := 17) (v := nI 2) jd_BranchworkLaw_change_16 (by decide +kernel) rfl ?_
      refine jw_iret hE jd_BranchworkLaw_change_17 rfl (by omega) (by omega) ?_
      exact ⟨congrArg (fun z => some (Value.int (nI z))) hn.symm, ⟨_, (hFr _ hLb).trans hL, fun z => by omega⟩, fun q z _ => hFr q z⟩
    · exact absurd hi (by simp)
  obtain ⟨rfl, hn, hFr⟩ := q9
  have hL := (hFr _ hLb).trans hL
  refine jw_i2l (pc' := 8) jd_BranchworkLaw_change_7 rfl rfl ?_
  refine jw_last (pc' := 9) (i := 4) jd_BranchworkLaw_change_8 (by assumption) rfl (vp_in_nI (n := 0) (by omega) (by omega)) rfl (fun μ hL f9 => ?_)
  refine jw_goto (tgt := 18) jd_BranchworkLaw_change_9 (by decide) ?_
  refine jw_iconst (pc' := 19) (v := nI 0) jd_BranchworkLaw_change_18 (by decide +kernel) rfl ?_
  refine jw_iret hE jd_BranchworkLaw_change_19 rfl (by omega) (by omega) ?_
  exact ⟨congrArg (fun z => some (Value.int (nI z))) hn.symm, ⟨_, hL, fun _ => jv_upd⟩, fun q z z2 => (f9 q z2).trans (hFr q z)⟩
theorem bh_reset (h : bw_New o μ b) (hL : μ L = some (.inl (o.2.2.1 4, 1, .inr (.inl f)))) (hLb : L < b ∨ b + 984 ≤ L) (x0 : Int32) : jh_F mi_BranchworkLaw_reset jh_reset o [.ref b, .int x0, .ref L] μ hs b L (1) 0 := by
  refine jw_specH (by decide +kernel) (Nat.le_of_ble_eq_true rfl) rfl (fun k hR hE hT => ?_)
  have h0 := h.1
  refine jw_aload_n (pc' := 1) jd_BranchworkLaw_reset_0 rfl rfl rfl ?_
  refine jw_iconst (pc' := 2) (v := nI 0) jd_BranchworkLaw_reset_1 (by decide +kernel) rfl ?_
  refine jw_aload_n (pc' := 3) jd_BranchworkLaw_reset_2 rfl rfl rfl ?_
  refine jw_iload_n (pc' := 4) jd_BranchworkLaw_reset_3 rfl rfl rfl ?_
  refine jw_callVX (pc' := 7) hR (by_reset h x0) jm_Branchwork_reset jq_756 jc_Branchwork jd_BranchworkLaw_reset_4 (by assumption) rfl rfl (Nat.le_of_ble_eq_true rfl) (by omega) (by decide) (by omega) (by omega) rfl (fun E q9 μ9 s9 hΨ hle9 => ?_) (fun v μ s9 q9 hle => ?_)
  · obtain ⟨⟨i, hi, hn⟩, hFr⟩ := hΨ
    rcases i with _ | i
    · obtain rfl : E = jx_IO := (Option.some.inj hi).symm
      refine jw_catch (pc' := 12) (pre := []) (x := ⟨0, 9, 12, 13⟩) (suf := []) (name := jx_IO) hT (fun z hz => by cases hz) (by decide) (by decide) jq_600 (by decide +kernel) rfl ?_
      refine jw_astore_n (pc' := 13) (lc' := [(0, _), (1, _), (2, _), (3, _)]) jd_BranchworkLaw_reset_12 rfl (Nat.le_of_ble_eq_true rfl) ⟨rfl, rfl, rfl, rfl, trivial⟩ rfl ?_
      refine jw_iconst (pc' := 14) (v := nI 1) jd_BranchworkLaw_reset_13 (by decide +kernel) rfl ?_
      refine jw_iret hE jd_BranchworkLaw_reset_14 rfl (by omega) (by omega) ?_
      exact ⟨congrArg (fun z => some (Value.int (nI z))) hn.symm, ⟨_, (hFr _ hLb).trans hL, fun z => by omega⟩, fun q z _ => hFr q z⟩
    · exact absurd hi (by simp)
  obtain ⟨rfl, hn, hFr⟩ := q9
  exact absurd hn (by decide)
theorem bh_merge (h : bw_New o μ b) (hL : μ L = some (.inl (o.2.2.1 4, 1, .inr (.inl f)))) (hLb : L < b ∨ b + 984 ≤ L) (x0 : Int32) : jh_F mi_BranchworkLaw_merge jh_merge o [.ref b, .int x0, .ref L] μ hs b L (kx_merge x0) 0 := by
  refine jw_specH (by decide +kernel) (Nat.le_of_ble_eq_true rfl) rfl (fun k hR hE hT => ?_)
  have h0 := h.1
  refine jw_aload_n (pc' := 1) jd_BranchworkLaw_merge_0 rfl rfl rfl ?_
  refine jw_iconst (pc' := 2) (v := nI 0) jd_BranchworkLaw_merge_1 (by decide +kernel) rfl ?_
  refine jw_aload_n (pc' := 3) jd_BranchworkLaw_merge_2 rfl rfl rfl ?_
  refine jw_iload_n (pc' := 4) jd_BranchworkLaw_merge_3 rfl rfl rfl ?_
  refine jw_callVX (pc' := 7) hR (by_merge h x0) jm_Branchwork_merge jq_767 jc_Branchwork jd_BranchworkLaw_merge_4 (by assumption) rfl rfl (Nat.le_of_ble_eq_true rfl) (by omega) (by decide) (by omega) (by omega) rfl (fun E q9 μ9 s9 hΨ hle9 => ?_) (fun v μ s9 q9 hle => ?_)
  · obtain ⟨⟨i, hi, hn⟩, hFr⟩ := hΨ
    rcases i with _ | _ | i
    · obtain rfl : E = jx_IO := (Option.some.inj hi).symm
      refine jw_catch (pc' := 12) (pre := []) (x := ⟨0, 9, 12, 13⟩) (suf := [⟨0, 9, 15, 17⟩]) (name := jx_IO) hT (fun z hz => by cases hz) (by decide) (by decide) jq_600 (by decide +kernel) rfl ?_
      refine jw_astore_n (pc' := 13) (lc' := [(0, _), (1, _), (2, _), (3, _)]) jd_BranchworkLaw_merge_12 rfl (Nat.le_of_ble_eq_true rfl) ⟨rfl, rfl, rfl, rfl, trivial⟩ rfl ?_
      refine jw_iconst (pc' := 14) (v := nI 1) jd_BranchworkLaw_merge_13 (by decide +kernel) rfl ?_
      refine jw_iret hE jd_BranchworkLaw_merge_14 rfl (by omega) (by omega) ?_
      exact ⟨congrArg (fun z => some (Value.int (nI z))) hn.symm, ⟨_, (hFr _ hLb).trans hL, fun z => by omega⟩, fun q z _ => hFr q z⟩
    · obtain rfl : E = jx_IS := (Option.some.inj hi).symm
      refine jw_catch (pc' := 15) (pre := [⟨0, 9, 12, 13⟩]) (x := ⟨0, 9, 15, 17⟩) (suf := []) (name := jx_IS) hT (fun z hz => by
          simp only [List.mem_cons, List.not_mem_nil, or_false] at hz
          rcases hz with rfl
          · exact Or.inr ⟨by decide, jx_IO, jq_600, by decide +kernel⟩) (by decide) (by decide) jq_602 (by decide +kernel) rfl ?_
      refine jw_astore_n (pc' := 16) (lc' := [(0, _), (1, _), (2, _), (3, _)]) jd_BranchworkLaw_merge_15 rfl (Nat.le_of_ble_eq_true rfl) ⟨rfl, rfl, rfl, rfl, trivial⟩ rfl ?_
      refine jw_iconst (pc' := 17) (v := nI 2) jd_BranchworkLaw_merge_16 (by decide +kernel) rfl ?_
      refine jw_iret hE jd_BranchworkLaw_merge_17 rfl (by omega) (by omega) ?_
      exact ⟨congrArg (fun z => some (Value.int (nI z))) hn.symm, ⟨_, (hFr _ hLb).trans hL, fun z => by omega⟩, fun q z _ => hFr q z⟩
    · exact absurd hi (by simp)
  obtain ⟨rfl, hn, hFr⟩ := q9
  have hL := (hFr _ hLb).trans hL
  refine jw_i2l (pc' := 8) jd_BranchworkLaw_merge_7 rfl rfl ?_
  refine jw_last (pc' := 9) (i := 4) jd_BranchworkLaw_merge_8 (by assumption) rfl (vp_in_nI (n := 0) (by omega) (by omega)) rfl (fun μ hL f9 => ?_)
  refine jw_goto (tgt := 18) jd_BranchworkLaw_merge_9 (by decide) ?_
  refine jw_iconst (pc' := 19) (v := nI 0) jd_BranchworkLaw_merge_18 (by decide +kernel) rfl ?_
  refine jw_iret hE jd_BranchworkLaw_merge_19 rfl (by omega) (by omega) ?_
  exact ⟨congrArg (fun z => some (Value.int (nI z))) hn.symm, ⟨_, hL, fun _ => jv_upd⟩, fun q z z2 => (f9 q z2).trans (hFr q z)⟩
theorem bh_settle (h : bw_New o μ b) (hL : μ L = some (.inl (o.2.2.1 4, 1, .inr (.inl f)))) (hLb : L < b ∨ b + 984 ≤ L) (x0 : Int32) : jh_F mi_BranchworkLaw_settle jh_settle o [.ref b, .int x0, .ref L] μ hs b L (1) 0 := by
  refine jw_specH (by decide +kernel) (Nat.le_of_ble_eq_true rfl) rfl (fun k hR hE hT => ?_)
  have h0 := h.1
  refine jw_aload_n (pc' := 1) jd_BranchworkLaw_settle_0 rfl rfl rfl ?_
  refine jw_iconst (pc' := 2) (v := nI 0) jd_BranchworkLaw_settle_1 (by decide +kernel) rfl ?_
  refine jw_aload_n (pc' := 3) jd_BranchworkLaw_settle_2 rfl rfl rfl ?_
  refine jw_iload_n (pc' := 4) jd_BranchworkLaw_settle_3 rfl rfl rfl ?_
  refine jw_callVX (pc' := 7) hR (by_settle h x0) jm_Branchwork_settle jq_903 jc_Branchwork jd_BranchworkLaw_settle_4 (by assumption) rfl rfl (Nat.le_of_ble_eq_true rfl) (by omega) (by decide) (by omega) (by omega) rfl (fun E q9 μ9 s9 hΨ hle9 => ?_) (fun v μ s9 q9 hle => ?_)
  · obtain ⟨⟨i, hi, hn⟩, hFr⟩ := hΨ
    rcases i with _ | i
    · obtain rfl : E = jx_IO := (Option.some.inj hi).symm
      refine jw_catch (pc' := 12) (pre := []) (x := ⟨0, 9, 12, 13⟩) (suf := []) (name := jx_IO) hT (fun z hz => by cases hz) (by decide) (by decide) jq_600 (by decide +kernel) rfl ?_
      refine jw_astore_n (pc' := 13) (lc' := [(0, _), (1, _), (2, _), (3, _)]) jd_BranchworkLaw_settle_12 rfl (Nat.le_of_ble_eq_true rfl) ⟨rfl, rfl, rfl, rfl, trivial⟩ rfl ?_
      refine jw_iconst (pc' := 14) (v := nI 1) jd_BranchworkLaw_settle_13 (by decide +kernel) rfl ?_
      refine jw_iret hE jd_BranchworkLaw_settle_14 rfl (by omega) (by omega) ?_
      exact ⟨congrArg (fun z => some (Value.int (nI z))) hn.symm, ⟨_, (hFr _ hLb).trans hL, fun z => by omega⟩, fun q z _ => hFr q z⟩
    · exact absurd hi (by simp)
  obtain ⟨rfl, hn, hFr⟩ := q9
  exact absurd hn (by decide)
theorem bh_many (h : bw_New o μ b) (hL : μ L = some (.inl (o.2.2.1 4, 1, .inr (.inl f)))) (hLb : L < b ∨ b + 984 ≤ L) (x0 : Int32) : jh_F mi_BranchworkLaw_many jh_many o [.ref b, .int x0, .ref L] μ hs b L (kx_small 5 x0) (mv_many x0.toNatClampNeg) := by
  refine jw_specH (by decide +kernel) (Nat.le_of_ble_eq_true rfl) rfl (fun k hR hE hT => ?_)
  have h0 := h.1
  refine jw_aload_n (pc' := 1) jd_BranchworkLaw_many_0 rfl rfl rfl ?_
  refine jw_iconst (pc' := 2) (v := nI 0) jd_BranchworkLaw_many_1 (by decide +kernel) rfl ?_
  refine jw_aload_n (pc' := 3) jd_BranchworkLaw_many_2 rfl rfl rfl ?_
  refine jw_iload_n (pc' := 4) jd_BranchworkLaw_many_3 rfl rfl rfl ?_
  refine jw_callVX (pc' := 7) hR (by_many0 h x0) jm_Branchwork_many jq_920 jc_Branchwork jd_BranchworkLaw_many_4 (by assumption) rfl rfl (Nat.le_of_ble_eq_true rfl) (by omega) (by decide) (by omega) (by omega) rfl (fun E q9 μ9 s9 hΨ hle9 => ?_) (fun v μ s9 q9 hle => ?_)
  · obtain ⟨rfl, hn, rfl⟩ := hΨ
    refine jw_catch (pc' := 12) (pre := []) (x := ⟨0, 9, 12, 15⟩) (suf := []) (name := jx_IA) hT (fun z hz => by cases hz) (by decide) (by decide) jq_601 (by decide +kernel) rfl ?_
    refine jw_astore_n (pc' := 13) (lc' := [(0, _), (1, _), (2, _), (3, _)]) jd_BranchworkLaw_many_12 rfl (Nat.le_of_ble_eq_true rfl) ⟨rfl, rfl, rfl, rfl, trivial⟩ rfl ?_
    refine jw_iconst (pc' := 14) (v := nI 1) jd_BranchworkLaw_many_13 (by decide +kernel) rfl ?_
    refine jw_iret hE jd_BranchworkLaw_many_14 rfl (by omega) (by omega) ?_
    exact ⟨congrArg (fun z => some (Value.int (nI z))) hn.symm, ⟨_, hL, fun z => by omega⟩, fun q z _ => rfl⟩
  obtain ⟨⟨j, hj, rfl, rfl⟩, rfl, hN, hFr⟩ := q9
  have hn : kx_small 5 (nI j) = 0 := kx_small_ok (by omega) hj
  have hL := (hFr _ (by omega)).trans hL
  refine jw_i2l (pc' := 8) jd_BranchworkLaw_many_7 rfl rfl ?_
  refine jw_last (pc' := 9) (i := 4) jd_BranchworkLaw_many_8 (by assumption) rfl (vp_in_nI (n := 0) (by omega) (by omega)) rfl (fun μ hL f9 => ?_)
  refine jw_goto (tgt := 15) jd_BranchworkLaw_many_9 (by decide) ?_
  refine jw_iconst (pc' := 16) (v := nI 0) jd_BranchworkLaw_many_15 (by decide +kernel) rfl ?_
  refine jw_iret hE jd_BranchworkLaw_many_16 rfl (by omega) (by omega) ?_
  exact ⟨congrArg (fun z => some (Value.int (nI z))) hn.symm, ⟨_, hL, fun _ => (by rw [nI_clamp (n := j) (by omega)]; exact jv_upd)⟩, fun q z z2 => (f9 q z2).trans (hFr q (by omega))⟩
theorem bh_now (h : bw_New o μ b) (hL : μ L = some (.inl (o.2.2.1 4, 1, .inr (.inl f)))) (hLb : L < b ∨ b + 984 ≤ L) (x0 : Int32) : jh_F mi_BranchworkLaw_now jh_now o [.ref b, .int x0, .ref L] μ hs b L (kx_small 2 x0) (mv_now x0.toNatClampNeg) := by
  refine jw_specH (by decide +kernel) (Nat.le_of_ble_eq_true rfl) rfl (fun k hR hE hT => ?_)
  have h0 := h.1
  refine jw_aload_n (pc' := 1) jd_BranchworkLaw_now_0 rfl rfl rfl ?_
  refine jw_iconst (pc' := 2) (v := nI 0) jd_BranchworkLaw_now_1 (by decide +kernel) rfl ?_
  refine jw_aload_n (pc' := 3) jd_BranchworkLaw_now_2 rfl rfl rfl ?_
  refine jw_iload_n (pc' := 4) jd_BranchworkLaw_now_3 rfl rfl rfl ?_
  refine jw_callVX (pc' := 7) hR (by_now0 h x0) jm_Branchwork_now jq_924 jc_Branchwork jd_BranchworkLaw_now_4 (by assumption) rfl rfl (Nat.le_of_ble_eq_true rfl) (by omega) (by decide) (by omega) (by omega) rfl (fun E q9 μ9 s9 hΨ hle9 => ?_) (fun v μ s9 q9 hle => ?_)
  · obtain ⟨rfl, hn, rfl⟩ := hΨ
    refine jw_catch (pc' := 12) (pre := []) (x := ⟨0, 9, 12, 15⟩) (suf := []) (name := jx_IA) hT (fun z hz => by cases hz) (by decide) (by decide) jq_601 (by decide +kernel) rfl ?_
    refine jw_astore_n (pc' := 13) (lc' := [(0, _), (1, _), (2, _), (3, _)]) jd_BranchworkLaw_now_12 rfl (Nat.le_of_ble_eq_true rfl) ⟨rfl, rfl, rfl, rfl, trivial⟩ rfl ?_
    refine jw_iconst (pc' := 14) (v := nI 1) jd_BranchworkLaw_now_13 (by decide +kernel) rfl ?_
    refine jw_iret hE jd_BranchworkLaw_now_14 rfl (by omega) (by omega) ?_
    exact ⟨congrArg (fun z => some (Value.int (nI z))) hn.symm, ⟨_, hL, fun z => by omega⟩, fun q z _ => rfl⟩
  obtain ⟨⟨j, hj, rfl, rfl⟩, rfl, rfl⟩ := q9
  have hn : kx_small 2 (nI j) = 0 := kx_small_ok (by omega) hj
  refine jw_i2l (pc' := 8) jd_BranchworkLaw_now_7 rfl rfl ?_
  refine jw_last (pc' := 9) (i := 4) jd_BranchworkLaw_now_8 (by assumption) rfl (vp_in_nI (n := 0) (by omega) (by omega)) rfl (fun μ hL f9 => ?_)
  refine jw_goto (tgt := 15) jd_BranchworkLaw_now_9 (by decide) ?_
  refine jw_iconst (pc' := 16) (v := nI 0) jd_BranchworkLaw_now_15 (by decide +kernel) rfl ?_
  refine jw_iret hE jd_BranchworkLaw_now_16 rfl (by omega) (by omega) ?_
  exact ⟨congrArg (fun z => some (Value.int (nI z))) hn.symm, ⟨_, hL, fun _ => (by rw [nI_clamp (n := j) (by omega)]; exact jv_upd)⟩, fun q z z2 => (f9 q z2).trans (rfl)⟩
theorem bh_at (h : bw_New o μ b) (hL : μ L = some (.inl (o.2.2.1 4, 1, .inr (.inl f)))) (hLb : L < b ∨ b + 984 ≤ L) (x0 : Int32) : jh_F mi_BranchworkLaw_at jh_at o [.ref b, .int x0, .ref L] μ hs b L (kx_z x0) (-1) := by
  refine jw_specH (by decide +kernel) (Nat.le_of_ble_eq_true rfl) rfl (fun k hR hE hT => ?_)
  have h0 := h.1
  refine jw_aload_n (pc' := 1) jd_BranchworkLaw_at_0 rfl rfl rfl ?_
  refine jw_iconst (pc' := 2) (v := nI 0) jd_BranchworkLaw_at_1 (by decide +kernel) rfl ?_
  refine jw_aload_n (pc' := 3) jd_BranchworkLaw_at_2 rfl rfl rfl ?_
  refine jw_iload_n (pc' := 4) jd_BranchworkLaw_at_3 rfl rfl rfl ?_
  refine jw_callVX (pc' := 7) hR (by_at0 h x0) jm_Branchwork_at jq_928 jc_Branchwork jd_BranchworkLaw_at_4 (by assumption) rfl rfl (Nat.le_of_ble_eq_true rfl) (by omega) (by decide) (by omega) (by omega) rfl (fun E q9 μ9 s9 hΨ hle9 => ?_) (fun v μ s9 q9 hle => ?_)
  · obtain ⟨rfl, hn, rfl⟩ := hΨ
    refine jw_catch (pc' := 12) (pre := []) (x := ⟨0, 9, 12, 13⟩) (suf := []) (name := jx_IO) hT (fun z hz => by cases hz) (by decide) (by decide) jq_600 (by decide +kernel) rfl ?_
    refine jw_astore_n (pc' := 13) (lc' := [(0, _), (1, _), (2, _), (3, _)]) jd_BranchworkLaw_at_12 rfl (Nat.le_of_ble_eq_true rfl) ⟨rfl, rfl, rfl, rfl, trivial⟩ rfl ?_
    refine jw_iconst (pc' := 14) (v := nI 1) jd_BranchworkLaw_at_13 (by decide +kernel) rfl ?_
    refine jw_iret hE jd_BranchworkLaw_at_14 rfl (by omega) (by omega) ?_
    exact ⟨congrArg (fun z => some (Value.int (nI z))) hn.symm, ⟨_, hL, fun z => by omega⟩, fun q z _ => rfl⟩
  obtain ⟨rfl, rfl, rfl, rfl⟩ := q9
  have hn : kx_z 0 = 0 := by decide
  refine jw_i2l (pc' := 8) jd_BranchworkLaw_at_7 rfl rfl ?_
  refine jw_last (pc' := 9) (i := 4) jd_BranchworkLaw_at_8 (by assumption) rfl (vp_in_nI (n := 0) (by omega) (by omega)) rfl (fun μ hL f9 => ?_)
  refine jw_goto (tgt := 15) jd_BranchworkLaw_at_9 (by decide) ?_
  refine jw_iconst (pc' := 16) (v := nI 0) jd_BranchworkLaw_at_15 (by decide +kernel) rfl ?_
  refine jw_iret hE jd_BranchworkLaw_at_16 rfl (by omega) (by omega) ?_
  exact ⟨congrArg (fun z => some (Value.int (nI z))) hn.symm, ⟨_, hL, fun _ => jv_upd⟩, fun q z z2 => (f9 q z2).trans (rfl)⟩
theorem bh_ofCommit (h : bw_New o μ b) (hL : μ L = some (.inl (o.2.2.1 4, 1, .inr (.inl f)))) (hLb : L < b ∨ b + 984 ≤ L) (x0 x1 : Int32) : jh_F mi_BranchworkLaw_ofCommit jh_ofCommit o [.ref b, .int x0, .int x1, .ref L] μ hs b L (1) 0 := by
  refine jw_specH (by decide +kernel) (Nat.le_of_ble_eq_true rfl) rfl (fun k hR hE hT => ?_)
  have h0 := h.1
  refine jw_aload_n (pc' := 1) jd_BranchworkLaw_ofCommit_0 rfl rfl rfl ?_
  refine jw_iconst (pc' := 2) (v := nI 0) jd_BranchworkLaw_ofCommit_1 (by decide +kernel) rfl ?_
  refine jw_aload_n (pc' := 3) jd_BranchworkLaw_ofCommit_2 rfl rfl rfl ?_
  refine jw_iload_n (pc' := 4) jd_BranchworkLaw_ofCommit_3 rfl rfl rfl ?_
  refine jw_iload_n (pc' := 5) jd_BranchworkLaw_ofCommit_4 rfl rfl rfl ?_
  refine jw_callVX (pc' := 8) hR (by_ofCommit h x0 x1) jm_Branchwork_ofCommit jq_932 jc_Branchwork jd_BranchworkLaw_ofCommit_5 (by assumption) rfl rfl (Nat.le_of_ble_eq_true rfl) (by omega) (by decide) (by omega) (by omega) rfl (fun E q9 μ9 s9 hΨ hle9 => ?_) (fun v μ s9 q9 hle => ?_)
  · obtain ⟨⟨i, hi, hn⟩, hFr⟩ := hΨ
    rcases i with _ | _ | i
    · obtain rfl : E = jx_IO := (Option.some.inj hi).symm
      refine jw_catch (pc' := 13) (pre := []) (x := ⟨0, 10, 13, 13⟩) (suf := [⟨0, 10, 17, 15⟩]) (name := jx_IO) hT (fun z hz => by cases hz) (by decide) (by decide) jq_600 (by decide +kernel) rfl ?_
      refine jw_astore (pc' := 15) (lc' := [(0, _), (1, _), (2, _), (3, _), (4, _)]) jd_BranchworkLaw_ofCommit_13 (Nat.le_of_ble_eq_true rfl) ⟨rfl, rfl, rfl, rfl, rfl, trivial⟩ rfl ?_
      refine jw_iconst (pc' := 16) (v := nI 1) jd_BranchworkLaw_ofCommit_15 (by decide +kernel) rfl ?_
      refine jw_iret hE jd_BranchworkLaw_ofCommit_16 rfl (by omega) (by omega) ?_
      exact ⟨congrArg (fun z => some (Value.int (nI z))) hn.symm, ⟨_, (hFr _ hLb).trans hL, fun z => by omega⟩, fun q z _ => hFr q z⟩
    · obtain rfl : E = jx_IA := (Option.some.inj hi).symm
      refine jw_catch (pc' := 17) (pre := [⟨0, 10, 13, 13⟩]) (x := ⟨0, 10, 17, 15⟩) (suf := []) (name := jx_IA) hT (fun z hz => by
          simp only [List.mem_cons, List.not_mem_nil, or_false] at hz
          rcases hz with rfl
          · exact Or.inr ⟨by decide, jx_IO, jq_600, by decide +kernel⟩) (by decide) (by decide) jq_601 (by decide +kernel) rfl ?_
      refine jw_astore (pc' := 19) (lc' := [(0, _), (1, _), (2, _), (3, _), (4, _)]) jd_BranchworkLaw_ofCommit_17 (Nat.le_of_ble_eq_true rfl) ⟨rfl, rfl, rfl, rfl, rfl, trivial⟩ rfl ?_
      refine jw_iconst (pc' := 20) (v := nI 2) jd_BranchworkLaw_ofCommit_19 (by decide +kernel) rfl ?_
      refine jw_iret hE jd_BranchworkLaw_ofCommit_20 rfl (by omega) (by omega) ?_
      exact ⟨congrArg (fun z => some (Value.int (nI z))) hn.symm, ⟨_, (hFr _ hLb).trans hL, fun z => by omega⟩, fun q z _ => hFr q z⟩
    · exact absurd hi (by simp)
  obtain ⟨rfl, hn, hFr⟩ := q9
  exact absurd hn (by decide)
theorem bh_line (h : bw_New o μ b) (hL : μ L = some (.inl (o.2.2.1 4, 1, .inr (.inl f)))) (hLb : L < b ∨ b + 984 ≤ L) (x0 x1 x2 : Int32) : jh_F mi_BranchworkLaw_line jh_line o [.ref b, .int x0, .int x1, .int x2, .ref L] μ hs b L (kx_show x0 x1) (-2) := by
  refine jw_specH (by decide +kernel) (Nat.le_of_ble_eq_true rfl) rfl (fun k hR hE hT => ?_)
  have h0 := h.1
  refine jw_aload (pc' := 2) jd_BranchworkLaw_line_0 rfl rfl ?_
  refine jw_iconst (pc' := 3) (v := nI 0) jd_BranchworkLaw_line_2 (by decide +kernel) rfl ?_
  refine jw_aload_n (pc' := 4) jd_BranchworkLaw_line_3 rfl rfl rfl ?_
  refine jw_iload_n (pc' := 5) jd_BranchworkLaw_line_4 rfl rfl rfl ?_
  refine jw_iload_n (pc' := 6) jd_BranchworkLaw_line_5 rfl rfl rfl ?_
  refine jw_iload_n (pc' := 7) jd_BranchworkLaw_line_6 rfl rfl rfl ?_
  refine jw_callVX (pc' := 10) hR (by_line h x0 x1 x2) jm_Branchwork_line jq_936 jc_Branchwork jd_BranchworkLaw_line_7 (by assumption) rfl rfl (Nat.le_of_ble_eq_true rfl) (by omega) (by decide) (by omega) (by omega) rfl (fun E q9 μ9 s9 hΨ hle9 => ?_) (fun v μ s9 q9 hle => ?_)
  · obtain ⟨⟨i, hi, hn⟩, hFr⟩ := hΨ
    rcases i with _ | i
    · obtain rfl : E = jx_IO := (Option.some.inj hi).symm
      refine jw_catch (pc' := 15) (pre := []) (x := ⟨0, 12, 15, 13⟩) (suf := []) (name := jx_IO) hT (fun z hz => by cases hz) (by decide) (by decide) jq_600 (by decide +kernel) rfl ?_
      refine jw_astore (pc' := 17) (lc' := [(0, _), (1, _), (2, _), (3, _), (4, _), (5, _)]) jd_BranchworkLaw_line_15 (Nat.le_of_ble_eq_true rfl) ⟨rfl, rfl, rfl, rfl, rfl, rfl, trivial⟩ rfl ?_
      refine jw_iconst (pc' := 18) (v := nI 1) jd_BranchworkLaw_line_17 (by decide +kernel) rfl ?_
      refine jw_iret hE jd_BranchworkLaw_line_18 rfl (by omega) (by omega) ?_
      exact ⟨congrArg (fun z => some (Value.int (nI z))) hn.symm, ⟨_, (hFr _ hLb).trans hL, fun z => by omega⟩, fun q z _ => hFr q z⟩
    · exact absurd hi (by simp)
  obtain ⟨rfl, hn, hFr⟩ := q9
  have hL := (hFr _ hLb).trans hL
  refine jw_i2l (pc' := 11) jd_BranchworkLaw_line_10 rfl rfl ?_
  refine jw_last (pc' := 12) (i := 4) jd_BranchworkLaw_line_11 (by assumption) rfl (vp_in_nI (n := 0) (by omega) (by omega)) rfl (fun μ hL f9 => ?_)
  refine jw_goto (tgt := 19) jd_BranchworkLaw_line_12 (by decide) ?_
  refine jw_iconst (pc' := 20) (v := nI 0) jd_BranchworkLaw_line_19 (by decide +kernel) rfl ?_
  refine jw_iret hE jd_BranchworkLaw_line_20 rfl (by omega) (by omega) ?_
  exact ⟨congrArg (fun z => some (Value.int (nI z))) hn.symm, ⟨_, hL, fun _ => jv_upd⟩, fun q z z2 => (f9 q z2).trans (hFr q z)⟩
theorem bh_size (h : bw_New o μ b) (hL : μ L = some (.inl (o.2.2.1 4, 1, .inr (.inl f)))) (hLb : L < b ∨ b + 984 ≤ L) (x0 x1 : Int32) : jh_F mi_BranchworkLaw_size jh_size o [.ref b, .int x0, .int x1, .ref L] μ hs b L (kx_show x0 x1) (-1) := by
  refine jw_specH (by decide +kernel) (Nat.le_of_ble_eq_true rfl) rfl (fun k hR hE hT => ?_)
  have h0 := h.1
  refine jw_aload_n (pc' := 1) jd_BranchworkLaw_size_0 rfl rfl rfl ?_
  refine jw_iconst (pc' := 2) (v := nI 0) jd_BranchworkLaw_size_1 (by decide +kernel) rfl ?_
  refine jw_aload_n (pc' := 3) jd_BranchworkLaw_size_2 rfl rfl rfl ?_
  refine jw_iload_n (pc' := 4) jd_BranchworkLaw_size_3 rfl rfl rfl ?_
  refine jw_iload_n (pc' := 5) jd_BranchworkLaw_size_4 rfl rfl rfl ?_
  refine jw_callVX (pc' := 8) hR (by_size0 h x0 x1) jm_Branchwork_size jq_947 jc_Branchwork jd_BranchworkLaw_size_5 (by assumption) rfl rfl (Nat.le_of_ble_eq_true rfl) (by omega) (by decide) (by omega) (by omega) rfl (fun E q9 μ9 s9 hΨ hle9 => ?_) (fun v μ s9 q9 hle => ?_)
  · obtain ⟨⟨i, hi, hn⟩, hFr⟩ := hΨ
    rcases i with _ | i
    · obtain rfl : E = jx_IO := (Option.some.inj hi).symm
      refine jw_catch (pc' := 13) (pre := []) (x := ⟨0, 10, 13, 13⟩) (suf := []) (name := jx_IO) hT (fun z hz => by cases hz) (by decide) (by decide) jq_600 (by decide +kernel) rfl ?_
      refine jw_astore (pc' := 15) (lc' := [(0, _), (1, _), (2, _), (3, _), (4, _)]) jd_BranchworkLaw_size_13 (Nat.le_of_ble_eq_true rfl) ⟨rfl, rfl, rfl, rfl, rfl, trivial⟩ rfl ?_
      refine jw_iconst (pc' := 16) (v := nI 1) jd_BranchworkLaw_size_15 (by decide +kernel) rfl ?_
      refine jw_iret hE jd_BranchworkLaw_size_16 rfl (by omega) (by omega) ?_
      exact ⟨congrArg (fun z => some (Value.int (nI z))) hn.symm, ⟨_, (hFr _ hLb).trans hL, fun z => by omega⟩, fun q z _ => hFr q z⟩
    · exact absurd hi (by simp)
  obtain ⟨rfl, hn, hFr⟩ := q9
  have hL := (hFr _ hLb).trans hL
  refine jw_i2l (pc' := 9) jd_BranchworkLaw_size_8 rfl rfl ?_
  refine jw_last (pc' := 10) (i := 4) jd_BranchworkLaw_size_9 (by assumption) rfl (vp_in_nI (n := 0) (by omega) (by omega)) rfl (fun μ hL f9 => ?_)
  refine jw_goto (tgt := 17) jd_BranchworkLaw_size_10 (by decide) ?_
  refine jw_iconst (pc' := 18) (v := nI 0) jd_BranchworkLaw_size_17 (by decide +kernel) rfl ?_
  refine jw_iret hE jd_BranchworkLaw_size_18 rfl (by omega) (by omega) ?_
  exact ⟨congrArg (fun z => some (Value.int (nI z))) hn.symm, ⟨_, hL, fun _ => jv_upd⟩, fun q z z2 => (f9 q z2).trans (hFr q z)⟩
theorem bh_conflict (h : bw_New o μ b) (hL : μ L = some (.inl (o.2.2.1 4, 1, .inr (.inl f)))) (hLb : L < b ∨ b + 984 ≤ L) (x0 x1 : Int32) : jh_F mi_BranchworkLaw_conflict jh_conflict o [.ref b, .int x0, .int x1, .ref L] μ hs b L (1) 0 := by
  refine jw_specH (by decide +kernel) (Nat.le_of_ble_eq_true rfl) rfl (fun k hR hE hT => ?_)
  have h0 := h.1
  refine jw_aload_n (pc' := 1) jd_BranchworkLaw_conflict_0 rfl rfl rfl ?_
  refine jw_iconst (pc' := 2) (v := nI 0) jd_BranchworkLaw_conflict_1 (by decide +kernel) rfl ?_
  refine jw_aload_n (pc' := 3) jd_BranchworkLaw_conflict_2 rfl rfl rfl ?_
  refine jw_iload_n (pc' := 4) jd_BranchworkLaw_conflict_3 rfl rfl rfl ?_
  refine jw_iload_n (pc' := 5) jd_BranchworkLaw_conflict_4 rfl rfl rfl ?_
  refine jw_callVX (pc' := 8) hR (by_conflict h x0 x1) jm_Branchwork_conflict jq_954 jc_Branchwork jd_BranchworkLaw_conflict_5 (by assumption) rfl rfl (Nat.le_of_ble_eq_true rfl) (by omega) (by decide) (by omega) (by omega) rfl (fun E q9 μ9 s9 hΨ hle9 => ?_) (fun v μ s9 q9 hle => ?_)
  · obtain ⟨⟨i, hi, hn⟩, hFr⟩ := hΨ
    rcases i with _ | _ | i
    · obtain rfl : E = jx_IO := (Option.some.inj hi).symm
      refine jw_catch (pc' := 13) (pre := []) (x := ⟨0, 10, 13, 13⟩) (suf := [⟨0, 10, 17, 15⟩]) (name := jx_IO) hT (fun z hz => by cases hz) (by decide) (by decide) jq_600 (by decide +kernel) rfl ?_
      refine jw_astore (pc' := 15) (lc' := [(0, _), (1, _), (2, _), (3, _), (4, _)]) jd_BranchworkLaw_conflict_13 (Nat.le_of_ble_eq_true rfl) ⟨rfl, rfl, rfl, rfl, rfl, trivial⟩ rfl ?_
      refine jw_iconst (pc' := 16) (v := nI 1) jd_BranchworkLaw_conflict_15 (by decide +kernel) rfl ?_
      refine jw_iret hE jd_BranchworkLaw_conflict_16 rfl (by omega) (by omega) ?_
      exact ⟨congrArg (fun z => some (Value.int (nI z))) hn.symm, ⟨_, (hFr _ hLb).trans hL, fun z => by omega⟩, fun q z _ => hFr q z⟩
    · obtain rfl : E = jx_IA := (Option.some.inj hi).symm
      refine jw_catch (pc' := 17) (pre := [⟨0, 10, 13, 13⟩]) (x := ⟨0, 10, 17, 15⟩) (suf := []) (name := jx_IA) hT (fun z hz => by
          simp only [List.mem_cons, List.not_mem_nil, or_false] at hz
          rcases hz with rfl
          · exact Or.inr ⟨by decide, jx_IO, jq_600, by decide +kernel⟩) (by decide) (by decide) jq_601 (by decide +kernel) rfl ?_
      refine jw_astore (pc' := 19) (lc' := [(0, _), (1, _), (2, _), (3, _), (4, _)]) jd_BranchworkLaw_conflict_17 (Nat.le_of_ble_eq_true rfl) ⟨rfl, rfl, rfl, rfl, rfl, trivial⟩ rfl ?_
      refine jw_iconst (pc' := 20) (v := nI 2) jd_BranchworkLaw_conflict_19 (by decide +kernel) rfl ?_
      refine jw_iret hE jd_BranchworkLaw_conflict_20 rfl (by omega) (by omega) ?_
      exact ⟨congrArg (fun z => some (Value.int (nI z))) hn.symm, ⟨_, (hFr _ hLb).trans hL, fun z => by omega⟩, fun q z _ => hFr q z⟩
    · exact absurd hi (by simp)
  obtain ⟨rfl, hn, hFr⟩ := q9
  exact absurd hn (by decide)
theorem bh_base (h : bw_New o μ b) (hL : μ L = some (.inl (o.2.2.1 4, 1, .inr (.inl f)))) (hLb : L < b ∨ b + 984 ≤ L) (x0 x1 : Int32) : jh_F mi_BranchworkLaw_base jh_base o [.ref b, .int x0, .int x1, .ref L] μ hs b L (1) 0 := by
  refine jw_specH (by decide +kernel) (Nat.le_of_ble_eq_true rfl) rfl (fun k hR hE hT => ?_)
  have h0 := h.1
  refine jw_aload_n (pc' := 1) jd_BranchworkLaw_base_0 rfl rfl rfl ?_
  refine jw_iconst (pc' := 2) (v := nI 0) jd_BranchworkLaw_base_1 (by decide +kernel) rfl ?_
  refine jw_aload_n (pc' := 3) jd_BranchworkLaw_base_2 rfl rfl rfl ?_
  refine jw_iload_n (pc' := 4) jd_BranchworkLaw_base_3 rfl rfl rfl ?_
  refine jw_iload_n (pc' := 5) jd_BranchworkLaw_base_4 rfl rfl rfl ?_
  refine jw_callVX (pc' := 8) hR (by_base h x0 x1) jm_Branchwork_base jq_962 jc_Branchwork jd_BranchworkLaw_base_5 (by assumption) rfl rfl (Nat.le_of_ble_eq_true rfl) (by omega) (by decide) (by omega) (by omega) rfl (fun E q9 μ9 s9 hΨ hle9 => ?_) (fun v μ s9 q9 hle => ?_)
  · obtain ⟨⟨i, hi, hn⟩, hFr⟩ := hΨ
    rcases i with _ | i
    · obtain rfl : E = jx_IO := (Option.some.inj hi).symm
      refine jw_catch (pc' := 13) (pre := []) (x := ⟨0, 10, 13, 13⟩) (suf := []) (name := jx_IO) hT (fun z hz => by cases hz) (by decide) (by decide) jq_600 (by decide +kernel) rfl ?_
      refine jw_astore (pc' := 15) (lc' := [(0, _), (1, _), (2, _), (3, _), (4, _)]) jd_BranchworkLaw_base_13 (Nat.le_of_ble_eq_true rfl) ⟨rfl, rfl, rfl, rfl, rfl, trivial⟩ rfl ?_
      refine jw_iconst (pc' := 16) (v := nI 1) jd_BranchworkLaw_base_15 (by decide +kernel) rfl ?_
      refine jw_iret hE jd_BranchworkLaw_base_16 rfl (by omega) (by omega) ?_
      exact ⟨congrArg (fun z => some (Value.int (nI z))) hn.symm, ⟨_, (hFr _ hLb).trans hL, fun z => by omega⟩, fun q z _ => hFr q z⟩
    · exact absurd hi (by simp)
  obtain ⟨rfl, hn, hFr⟩ := q9
  exact absurd hn (by decide)
theorem bh_went (h : bw_New o μ b) (hL : μ L = some (.inl (o.2.2.1 4, 1, .inr (.inl f)))) (hLb : L < b ∨ b + 984 ≤ L) (x0 x1 x2 : Int32) : jh_F mi_BranchworkLaw_went jh_went o [.ref b, .int x0, .int x1, .int x2, .ref L] μ hs b L (1) 0 := by
  refine jw_specH (by decide +kernel) (Nat.le_of_ble_eq_true rfl) rfl (fun k hR hE hT => ?_)
  have h0 := h.1
  refine jw_aload (pc' := 2) jd_BranchworkLaw_went_0 rfl rfl ?_
  refine jw_iconst (pc' := 3) (v := nI 0) jd_BranchworkLaw_went_2 (by decide +kernel) rfl ?_
  refine jw_aload_n (pc' := 4) jd_BranchworkLaw_went_3 rfl rfl rfl ?_
  refine jw_iload_n (pc' := 5) jd_BranchworkLaw_went_4 rfl rfl rfl ?_
  refine jw_iload_n (pc' := 6) jd_BranchworkLaw_went_5 rfl rfl rfl ?_
  refine jw_iload_n (pc' := 7) jd_BranchworkLaw_went_6 rfl rfl rfl ?_
  refine jw_callVX (pc' := 10) hR (by_went h x0 x1 x2) jm_Branchwork_went jq_969 jc_Branchwork jd_BranchworkLaw_went_7 (by assumption) rfl rfl (Nat.le_of_ble_eq_true rfl) (by omega) (by decide) (by omega) (by omega) rfl (fun E q9 μ9 s9 hΨ hle9 => ?_) (fun v μ s9 q9 hle => ?_)
  · obtain ⟨⟨i, hi, hn⟩, hFr⟩ := hΨ
    rcases i with _ | i
    · obtain rfl : E = jx_IO := (Option.some.inj hi).symm
      refine jw_catch (pc' := 15) (pre := []) (x := ⟨0, 12, 15, 13⟩) (suf := []) (name := jx_IO) hT (fun z hz => by cases hz) (by decide) (by decide) jq_600 (by decide +kernel) rfl ?_
      refine jw_astore (pc' := 17) (lc' := [(0, _), (1, _), (2, _), (3, _), (4, _), (5, _)]) jd_BranchworkLaw_went_15 (Nat.le_of_ble_eq_true rfl) ⟨rfl, rfl, rfl, rfl, rfl, rfl, trivial⟩ rfl ?_
      refine jw_iconst (pc' := 18) (v := nI 1) jd_BranchworkLaw_went_17 (by decide +kernel) rfl ?_
      refine jw_iret hE jd_BranchworkLaw_went_18 rfl (by omega) (by omega) ?_
      exact ⟨congrArg (fun z => some (Value.int (nI z))) hn.symm, ⟨_, (hFr _ hLb).trans hL, fun z => by omega⟩, fun q z _ => hFr q z⟩
    · exact absurd hi (by simp)
  obtain ⟨rfl, hn, hFr⟩ := q9
  exact absurd hn (by decide)
theorem bh_changes (h : bw_New o μ b) (hL : μ L = some (.inl (o.2.2.1 4, 1, .inr (.inl f)))) (hLb : L < b ∨ b + 984 ≤ L) (x0 x1 x2 : Int32) : jh_F mi_BranchworkLaw_changes jh_changes o [.ref b, .int x0, .int x1, .int x2, .ref L] μ hs b L (1) 0 := by
  refine jw_specH (by decide +kernel) (Nat.le_of_ble_eq_true rfl) rfl (fun k hR hE hT => ?_)
  have h0 := h.1
  refine jw_aload (pc' := 2) jd_BranchworkLaw_changes_0 rfl rfl ?_
  refine jw_iconst (pc' := 3) (v := nI 0) jd_BranchworkLaw_changes_2 (by decide +kernel) rfl ?_
  refine jw_aload_n (pc' := 4) jd_BranchworkLaw_changes_3 rfl rfl rfl ?_
  refine jw_iload_n (pc' := 5) jd_BranchworkLaw_changes_4 rfl rfl rfl ?_
  refine jw_iload_n (pc' := 6) jd_BranchworkLaw_changes_5 rfl rfl rfl ?_
  refine jw_iload_n (pc' := 7) jd_BranchworkLaw_changes_6 rfl rfl rfl ?_
  refine jw_callVX (pc' := 10) hR (by_changes h x0 x1 x2) jm_Branchwork_changes jq_978 jc_Branchwork jd_BranchworkLaw_changes_7 (by assumption) rfl rfl (Nat.le_of_ble_eq_true rfl) (by omega) (by decide) (by omega) (by omega) rfl (fun E q9 μ9 s9 hΨ hle9 => ?_) (fun v μ s9 q9 hle => ?_)
  · obtain ⟨⟨i, hi, hn⟩, hFr⟩ := hΨ
    rcases i with _ | _ | i
    · obtain rfl : E = jx_IO := (Option.some.inj hi).symm
      refine jw_catch (pc' := 15) (pre := []) (x := ⟨0, 12, 15, 13⟩) (suf := [⟨0, 12, 19, 15⟩]) (name := jx_IO) hT (fun z hz => by cases hz) (by decide) (by decide) jq_600 (by decide +kernel) rfl ?_
      refine jw_astore (pc' := 17) (lc' := [(0, _), (1, _), (2, _), (3, _), (4, _), (5, _)]) jd_BranchworkLaw_changes_15 (Nat.le_of_ble_eq_true rfl) ⟨rfl, rfl, rfl, rfl, rfl, rfl, trivial⟩ rfl ?_
      refine jw_iconst (pc' := 18) (v := nI 1) jd_BranchworkLaw_changes_17 (by decide +kernel) rfl ?_
      refine jw_iret hE jd_BranchworkLaw_changes_18 rfl (by omega) (by omega) ?_
      exact ⟨congrArg (fun z => some (Value.int (nI z))) hn.symm, ⟨_, (hFr _ hLb).trans hL, fun z => by omega⟩, fun q z _ => hFr q z⟩
    · obtain rfl : E = jx_IA := (Option.some.inj hi).symm
      refine jw_catch (pc' := 19) (pre := [⟨0, 12, 15, 13⟩]) (x := ⟨0, 12, 19, 15⟩) (suf := []) (name := jx_IA) hT (fun z hz => by
          simp only [List.mem_cons, List.not_mem_nil, or_false] at hz
          rcases hz with rfl
          · exact Or.inr ⟨by decide, jx_IO, jq_600, by decide +kernel⟩) (by decide) (by decide) jq_601 (by decide +kernel) rfl ?_
      refine jw_astore (pc' := 21) (lc' := [(0, _), (1, _), (2, _), (3, _), (4, _), (5, _)]) jd_BranchworkLaw_changes_19 (Nat.le_of_ble_eq_true rfl) ⟨rfl, rfl, rfl, rfl, rfl, rfl, trivial⟩ rfl ?_
      refine jw_iconst (pc' := 22) (v := nI 2) jd_BranchworkLaw_changes_21 (by decide +kernel) rfl ?_
      refine jw_iret hE jd_BranchworkLaw_changes_22 rfl (by omega) (by omega) ?_
      exact ⟨congrArg (fun z => some (Value.int (nI z))) hn.symm, ⟨_, (hFr _ hLb).trans hL, fun z => by omega⟩, fun q z _ => hFr q z⟩
    · exact absurd hi (by simp)
  obtain ⟨rfl, hn, hFr⟩ := q9
  exact absurd hn (by decide)
theorem bh_nearness (h : bw_New o μ b) (hL : μ L = some (.inl (o.2.2.1 4, 1, .inr (.inl f)))) (hLb : L < b ∨ b + 984 ≤ L) (x0 x1 x2 x3 : Int32) : jh_F mi_BranchworkLaw_nearness jh_nearness o [.ref b, .int x0, .int x1, .int x2, .int x3, .ref L] μ hs b L (1) 0 := by
  refine jw_specH (by decide +kernel) (Nat.le_of_ble_eq_true rfl) rfl (fun k hR hE hT => ?_)
  have h0 := h.1
  refine jw_aload (pc' := 2) jd_BranchworkLaw_nearness_0 rfl rfl ?_
  refine jw_iconst (pc' := 3) (v := nI 0) jd_BranchworkLaw_nearness_2 (by decide +kernel) rfl ?_
  refine jw_aload_n (pc' := 4) jd_BranchworkLaw_nearness_3 rfl rfl rfl ?_
  refine jw_iload_n (pc' := 5) jd_BranchworkLaw_nearness_4 rfl rfl rfl ?_
  refine jw_iload_n (pc' := 6) jd_BranchworkLaw_nearness_5 rfl rfl rfl ?_
  refine jw_iload_n (pc' := 7) jd_BranchworkLaw_nearness_6 rfl rfl rfl ?_
  refine jw_iload (pc' := 9) jd_BranchworkLaw_nearness_7 rfl rfl ?_
  refine jw_callVX (pc' := 12) hR (by_nearness h x0 x1 x2 x3) jm_Branchwork_nearness jq_995 jc_Branchwork jd_BranchworkLaw_nearness_9 (by assumption) rfl rfl (Nat.le_of_ble_eq_true rfl) (by omega) (by decide) (by omega) (by omega) rfl (fun E q9 μ9 s9 hΨ hle9 => ?_) (fun v μ s9 q9 hle => ?_)
  · obtain ⟨⟨i, hi, hn⟩, hFr⟩ := hΨ
    rcases i with _ | i
    · obtain rfl : E = jx_IO := (Option.some.inj hi).symm
      refine jw_catch (pc' := 17) (pre := []) (x := ⟨0, 14, 17, 13⟩) (suf := []) (name := jx_IO) hT (fun z hz => by cases hz) (by decide) (by decide) jq_600 (by decide +kernel) rfl ?_
      refine jw_astore (pc' := 19) (lc' := [(0, _), (1, _), (2, _), (3, _), (4, _), (5, _), (6, _)]) jd_BranchworkLaw_nearness_17 (Nat.le_of_ble_eq_true rfl) ⟨rfl, rfl, rfl, rfl, rfl, rfl, rfl, trivial⟩ rfl ?_
      refine jw_iconst (pc' := 20) (v := nI 1) jd_BranchworkLaw_nearness_19 (by decide +kernel) rfl ?_
      refine jw_iret hE jd_BranchworkLaw_nearness_20 rfl (by omega) (by omega) ?_
      exact ⟨congrArg (fun z => some (Value.int (nI z))) hn.symm, ⟨_, (hFr _ hLb).trans hL, fun z => by omega⟩, fun q z _ => hFr q z⟩
    · exact absurd hi (by simp)
  obtain ⟨rfl, hn, hFr⟩ := q9
  exact absurd hn (by decide)
theorem bh_origin (h : bw_New o μ b) (hL : μ L = some (.inl (o.2.2.1 4, 1, .inr (.inl f)))) (hLb : L < b ∨ b + 984 ≤ L) (x0 x1 x2 : Int32) : jh_F mi_BranchworkLaw_origin jh_origin o [.ref b, .int x0, .int x1, .int x2, .ref L] μ hs b L (1) 0 := by
  refine jw_specH (by decide +kernel) (Nat.le_of_ble_eq_true rfl) rfl (fun k hR hE hT => ?_)
  have h0 := h.1
  refine jw_aload (pc' := 2) jd_BranchworkLaw_origin_0 rfl rfl ?_
  refine jw_iconst (pc' := 3) (v := nI 0) jd_BranchworkLaw_origin_2 (by decide +kernel) rfl ?_
  refine jw_aload_n (pc' := 4) jd_BranchworkLaw_origin_3 rfl rfl rfl ?_
  refine jw_iload_n (pc' := 5) jd_BranchworkLaw_origin_4 rfl rfl rfl ?_
  refine jw_iload_n (pc' := 6) jd_BranchworkLaw_origin_5 rfl rfl rfl ?_
  refine jw_iload_n (pc' := 7) jd_BranchworkLaw_origin_6 rfl rfl rfl ?_
  refine jw_callVX (pc' := 10) hR (by_origin h x0 x1 x2) jm_Branchwork_origin jq_1003 jc_Branchwork jd_BranchworkLaw_origin_7 (by assumption) rfl rfl (Nat.le_of_ble_eq_true rfl) (by omega) (by decide) (by omega) (by omega) rfl (fun E q9 μ9 s9 hΨ hle9 => ?_) (fun v μ s9 q9 hle => ?_)
  · obtain ⟨⟨i, hi, hn⟩, hFr⟩ := hΨ
    rcases i with _ | i
    · obtain rfl : E = jx_IO := (Option.some.inj hi).symm
      refine jw_catch (pc' := 15) (pre := []) (x := ⟨0, 12, 15, 13⟩) (suf := []) (name := jx_IO) hT (fun z hz => by cases hz) (by decide) (by decide) jq_600 (by decide +kernel) rfl ?_
      refine jw_astore (pc' := 17) (lc' := [(0, _), (1, _), (2, _), (3, _), (4, _), (5, _)]) jd_BranchworkLaw_origin_15 (Nat.le_of_ble_eq_true rfl) ⟨rfl, rfl, rfl, rfl, rfl, rfl, trivial⟩ rfl ?_
      refine jw_iconst (pc' := 18) (v := nI 1) jd_BranchworkLaw_origin_17 (by decide +kernel) rfl ?_
      refine jw_iret hE jd_BranchworkLaw_origin_18 rfl (by omega) (by omega) ?_
      exact ⟨congrArg (fun z => some (Value.int (nI z))) hn.symm, ⟨_, (hFr _ hLb).trans hL, fun z => by omega⟩, fun q z _ => hFr q z⟩
    · exact absurd hi (by simp)
  obtain ⟨rfl, hn, hFr⟩ := q9
  exact absurd hn (by decide)
theorem bh_conflictsOf (h : bw_New o μ b) (hL : μ L = some (.inl (o.2.2.1 4, 1, .inr (.inl f)))) (hLb : L < b ∨ b + 984 ≤ L) (x0 x1 : Int32) : jh_F mi_BranchworkLaw_conflictsOf jh_conflictsOf o [.ref b, .int x0, .int x1, .ref L] μ hs b L (1) 0 := by
  refine jw_specH (by decide +kernel) (Nat.le_of_ble_eq_true rfl) rfl (fun k hR hE hT => ?_)
  have h0 := h.1
  refine jw_aload_n (pc' := 1) jd_BranchworkLaw_conflictsOf_0 rfl rfl rfl ?_
  refine jw_iconst (pc' := 2) (v := nI 0) jd_BranchworkLaw_conflictsOf_1 (by decide +kernel) rfl ?_
  refine jw_aload_n (pc' := 3) jd_BranchworkLaw_conflictsOf_2 rfl rfl rfl ?_
  refine jw_iload_n (pc' := 4) jd_BranchworkLaw_conflictsOf_3 rfl rfl rfl ?_
  refine jw_iload_n (pc' := 5) jd_BranchworkLaw_conflictsOf_4 rfl rfl rfl ?_
  refine jw_callVX (pc' := 8) hR (by_conflictsOf h x0 x1) jm_Branchwork_conflictsOf jq_1019 jc_Branchwork jd_BranchworkLaw_conflictsOf_5 (by assumption) rfl rfl (Nat.le_of_ble_eq_true rfl) (by omega) (by decide) (by omega) (by omega) rfl (fun E q9 μ9 s9 hΨ hle9 => ?_) (fun v μ s9 q9 hle => ?_)
  · obtain ⟨⟨i, hi, hn⟩, hFr⟩ := hΨ
    rcases i with _ | i
    · obtain rfl : E = jx_IO := (Option.some.inj hi).symm
      refine jw_catch (pc' := 13) (pre := []) (x := ⟨0, 10, 13, 13⟩) (suf := []) (name := jx_IO) hT (fun z hz => by cases hz) (by decide) (by decide) jq_600 (by decide +kernel) rfl ?_
      refine jw_astore (pc' := 15) (lc' := [(0, _), (1, _), (2, _), (3, _), (4, _)]) jd_BranchworkLaw_conflictsOf_13 (Nat.le_of_ble_eq_true rfl) ⟨rfl, rfl, rfl, rfl, rfl, trivial⟩ rfl ?_
      refine jw_iconst (pc' := 16) (v := nI 1) jd_BranchworkLaw_conflictsOf_15 (by decide +kernel) rfl ?_
      refine jw_iret hE jd_BranchworkLaw_conflictsOf_16 rfl (by omega) (by omega) ?_
      exact ⟨congrArg (fun z => some (Value.int (nI z))) hn.symm, ⟨_, (hFr _ hLb).trans hL, fun z => by omega⟩, fun q z _ => hFr q z⟩
    · exact absurd hi (by simp)
  obtain ⟨rfl, hn, hFr⟩ := q9
  exact absurd hn (by decide)
end
