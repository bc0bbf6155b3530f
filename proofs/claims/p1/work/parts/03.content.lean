theorem jd_Content_init_0 : decode mi_Content_init.2.1 0 = .ok (.aload_n 0, 1) := by decide +kernel
theorem jd_Content_init_1 : decode mi_Content_init.2.1 1 = .ok (.invokespecial 3, 3) := by decide +kernel
theorem jd_Content_init_4 : decode mi_Content_init.2.1 4 = .ok (.aload_n 0, 1) := by decide +kernel
theorem jd_Content_init_5 : decode mi_Content_init.2.1 5 = .ok (.bipush 10, 2) := by decide +kernel
theorem jd_Content_init_7 : decode mi_Content_init.2.1 7 = .ok (.newarray .int, 2) := by decide +kernel
theorem jd_Content_init_9 : decode mi_Content_init.2.1 9 = .ok (.putfield 9, 3) := by decide +kernel
theorem jd_Content_init_12 : decode mi_Content_init.2.1 12 = .ok (.aload_n 0, 1) := by decide +kernel
theorem jd_Content_init_13 : decode mi_Content_init.2.1 13 = .ok (.iconst 0, 1) := by decide +kernel
theorem jd_Content_init_14 : decode mi_Content_init.2.1 14 = .ok (.putfield 15, 3) := by decide +kernel
theorem jd_Content_init_17 : decode mi_Content_init.2.1 17 = .ok (.aload_n 0, 1) := by decide +kernel
theorem jd_Content_init_18 : decode mi_Content_init.2.1 18 = .ok (.iconst 0, 1) := by decide +kernel
theorem jd_Content_init_19 : decode mi_Content_init.2.1 19 = .ok (.putfield 19, 3) := by decide +kernel
theorem jd_Content_init_22 : decode mi_Content_init.2.1 22 = .ok (.return_, 1) := by decide +kernel
theorem jd_Content_exists_0 : decode mi_Content_exists.2.1 0 = .ok (.aload_n 0, 1) := by decide +kernel
theorem jd_Content_exists_1 : decode mi_Content_exists.2.1 1 = .ok (.getfield 19, 3) := by decide +kernel
theorem jd_Content_exists_4 : decode mi_Content_exists.2.1 4 = .ok (.ireturn, 1) := by decide +kernel
theorem jd_Content_length_0 : decode mi_Content_length.2.1 0 = .ok (.aload_n 0, 1) := by decide +kernel
theorem jd_Content_length_1 : decode mi_Content_length.2.1 1 = .ok (.getfield 15, 3) := by decide +kernel
theorem jd_Content_length_4 : decode mi_Content_length.2.1 4 = .ok (.ireturn, 1) := by decide +kernel
theorem jd_Content_isFull_0 : decode mi_Content_isFull.2.1 0 = .ok (.aload_n 0, 1) := by decide +kernel
theorem jd_Content_isFull_1 : decode mi_Content_isFull.2.1 1 = .ok (.getfield 15, 3) := by decide +kernel
theorem jd_Content_isFull_4 : decode mi_Content_isFull.2.1 4 = .ok (.bipush 10, 2) := by decide +kernel
theorem jd_Content_isFull_6 : decode mi_Content_isFull.2.1 6 = .ok (.if_icmp .lt 7, 3) := by decide +kernel
theorem jd_Content_isFull_9 : decode mi_Content_isFull.2.1 9 = .ok (.iconst 1, 1) := by decide +kernel
theorem jd_Content_isFull_10 : decode mi_Content_isFull.2.1 10 = .ok (.goto 4, 3) := by decide +kernel
theorem jd_Content_isFull_13 : decode mi_Content_isFull.2.1 13 = .ok (.iconst 0, 1) := by decide +kernel
theorem jd_Content_isFull_14 : decode mi_Content_isFull.2.1 14 = .ok (.ireturn, 1) := by decide +kernel
theorem jd_Content_lineAt_0 : decode mi_Content_lineAt.2.1 0 = .ok (.iload_n 1, 1) := by decide +kernel
theorem jd_Content_lineAt_1 : decode mi_Content_lineAt.2.1 1 = .ok (.ifCond .lt 26, 3) := by decide +kernel
theorem jd_Content_lineAt_4 : decode mi_Content_lineAt.2.1 4 = .ok (.iload_n 1, 1) := by decide +kernel
theorem jd_Content_lineAt_5 : decode mi_Content_lineAt.2.1 5 = .ok (.aload_n 0, 1) := by decide +kernel
theorem jd_Content_lineAt_6 : decode mi_Content_lineAt.2.1 6 = .ok (.getfield 15, 3) := by decide +kernel
theorem jd_Content_lineAt_9 : decode mi_Content_lineAt.2.1 9 = .ok (.if_icmp .ge 18, 3) := by decide +kernel
theorem jd_Content_lineAt_12 : decode mi_Content_lineAt.2.1 12 = .ok (.iload_n 1, 1) := by decide +kernel
theorem jd_Content_lineAt_13 : decode mi_Content_lineAt.2.1 13 = .ok (.bipush 10, 2) := by decide +kernel
theorem jd_Content_lineAt_15 : decode mi_Content_lineAt.2.1 15 = .ok (.if_icmp .ge 12, 3) := by decide +kernel
theorem jd_Content_lineAt_18 : decode mi_Content_lineAt.2.1 18 = .ok (.aload_n 0, 1) := by decide +kernel
theorem jd_Content_lineAt_19 : decode mi_Content_lineAt.2.1 19 = .ok (.getfield 9, 3) := by decide +kernel
theorem jd_Content_lineAt_22 : decode mi_Content_lineAt.2.1 22 = .ok (.iload_n 1, 1) := by decide +kernel
theorem jd_Content_lineAt_23 : decode mi_Content_lineAt.2.1 23 = .ok (.iaload, 1) := by decide +kernel
theorem jd_Content_lineAt_24 : decode mi_Content_lineAt.2.1 24 = .ok (.goto 4, 3) := by decide +kernel
theorem jd_Content_lineAt_27 : decode mi_Content_lineAt.2.1 27 = .ok (.iconst (-1), 1) := by decide +kernel
theorem jd_Content_lineAt_28 : decode mi_Content_lineAt.2.1 28 = .ok (.ireturn, 1) := by decide +kernel
theorem jd_Content_becomeAbsent_0 : decode mi_Content_becomeAbsent.2.1 0 = .ok (.aload_n 0, 1) := by decide +kernel
theorem jd_Content_becomeAbsent_1 : decode mi_Content_becomeAbsent.2.1 1 = .ok (.iconst 0, 1) := by decide +kernel
theorem jd_Content_becomeAbsent_2 : decode mi_Content_becomeAbsent.2.1 2 = .ok (.putfield 15, 3) := by decide +kernel
theorem jd_Content_becomeAbsent_5 : decode mi_Content_becomeAbsent.2.1 5 = .ok (.aload_n 0, 1) := by decide +kernel
theorem jd_Content_becomeAbsent_6 : decode mi_Content_becomeAbsent.2.1 6 = .ok (.iconst 0, 1) := by decide +kernel
theorem jd_Content_becomeAbsent_7 : decode mi_Content_becomeAbsent.2.1 7 = .ok (.putfield 19, 3) := by decide +kernel
theorem jd_Content_becomeAbsent_10 : decode mi_Content_becomeAbsent.2.1 10 = .ok (.return_, 1) := by decide +kernel
theorem jd_Content_sameAs_0 : decode mi_Content_sameAs.2.1 0 = .ok (.aload_n 0, 1) := by decide +kernel
theorem jd_Content_sameAs_1 : decode mi_Content_sameAs.2.1 1 = .ok (.getfield 19, 3) := by decide +kernel
theorem jd_Content_sameAs_4 : decode mi_Content_sameAs.2.1 4 = .ok (.aload_n 1, 1) := by decide +kernel
theorem jd_Content_sameAs_5 : decode mi_Content_sameAs.2.1 5 = .ok (.invokevirtual 48, 3) := by decide +kernel
theorem jd_Content_sameAs_8 : decode mi_Content_sameAs.2.1 8 = .ok (.if_icmp .ne 14, 3) := by decide +kernel
theorem jd_Content_sameAs_11 : decode mi_Content_sameAs.2.1 11 = .ok (.aload_n 0, 1) := by decide +kernel
theorem jd_Content_sameAs_12 : decode mi_Content_sameAs.2.1 12 = .ok (.getfield 15, 3) := by decide +kernel
theorem jd_Content_sameAs_15 : decode mi_Content_sameAs.2.1 15 = .ok (.aload_n 1, 1) := by decide +kernel
theorem jd_Content_sameAs_16 : decode mi_Content_sameAs.2.1 16 = .ok (.invokevirtual 27, 3) := by decide +kernel
theorem jd_Content_sameAs_19 : decode mi_Content_sameAs.2.1 19 = .ok (.if_icmp .eq 5, 3) := by decide +kernel
theorem jd_Content_sameAs_22 : decode mi_Content_sameAs.2.1 22 = .ok (.iconst 0, 1) := by decide +kernel
theorem jd_Content_sameAs_23 : decode mi_Content_sameAs.2.1 23 = .ok (.ireturn, 1) := by decide +kernel
theorem jd_Content_sameAs_24 : decode mi_Content_sameAs.2.1 24 = .ok (.iconst 0, 1) := by decide +kernel
theorem jd_Content_sameAs_25 : decode mi_Content_sameAs.2.1 25 = .ok (.istore_n 2, 1) := by decide +kernel
theorem jd_Content_sameAs_26 : decode mi_Content_sameAs.2.1 26 = .ok (.iload_n 2, 1) := by decide +kernel
theorem jd_Content_sameAs_27 : decode mi_Content_sameAs.2.1 27 = .ok (.aload_n 0, 1) := by decide +kernel
theorem jd_Content_sameAs_28 : decode mi_Content_sameAs.2.1 28 = .ok (.getfield 15, 3) := by decide +kernel
theorem jd_Content_sameAs_31 : decode mi_Content_sameAs.2.1 31 = .ok (.if_icmp .ge 25, 3) := by decide +kernel
theorem jd_Content_sameAs_34 : decode mi_Content_sameAs.2.1 34 = .ok (.aload_n 0, 1) := by decide +kernel
theorem jd_Content_sameAs_35 : decode mi_Content_sameAs.2.1 35 = .ok (.getfield 9, 3) := by decide +kernel
theorem jd_Content_sameAs_38 : decode mi_Content_sameAs.2.1 38 = .ok (.iload_n 2, 1) := by decide +kernel
theorem jd_Content_sameAs_39 : decode mi_Content_sameAs.2.1 39 = .ok (.iaload, 1) := by decide +kernel
theorem jd_Content_sameAs_40 : decode mi_Content_sameAs.2.1 40 = .ok (.aload_n 1, 1) := by decide +kernel
theorem jd_Content_sameAs_41 : decode mi_Content_sameAs.2.1 41 = .ok (.iload_n 2, 1) := by decide +kernel
theorem jd_Content_sameAs_42 : decode mi_Content_sameAs.2.1 42 = .ok (.invokevirtual 31, 3) := by decide +kernel
theorem jd_Content_sameAs_45 : decode mi_Content_sameAs.2.1 45 = .ok (.if_icmp .eq 5, 3) := by decide +kernel
theorem jd_Content_sameAs_48 : decode mi_Content_sameAs.2.1 48 = .ok (.iconst 0, 1) := by decide +kernel
theorem jd_Content_sameAs_49 : decode mi_Content_sameAs.2.1 49 = .ok (.ireturn, 1) := by decide +kernel
theorem jd_Content_sameAs_50 : decode mi_Content_sameAs.2.1 50 = .ok (.iinc 2 1, 3) := by decide +kernel
theorem jd_Content_sameAs_53 : decode mi_Content_sameAs.2.1 53 = .ok (.goto (-27), 3) := by decide +kernel
theorem jd_Content_sameAs_56 : decode mi_Content_sameAs.2.1 56 = .ok (.iconst 1, 1) := by decide +kernel
theorem jd_Content_sameAs_57 : decode mi_Content_sameAs.2.1 57 = .ok (.ireturn, 1) := by decide +kernel
theorem jd_Content_copyFrom_0 : decode mi_Content_copyFrom.2.1 0 = .ok (.aload_n 0, 1) := by decide +kernel
theorem jd_Content_copyFrom_1 : decode mi_Content_copyFrom.2.1 1 = .ok (.aload_n 1, 1) := by decide +kernel
theorem jd_Content_copyFrom_2 : decode mi_Content_copyFrom.2.1 2 = .ok (.invokevirtual 27, 3) := by decide +kernel
theorem jd_Content_copyFrom_5 : decode mi_Content_copyFrom.2.1 5 = .ok (.bipush 10, 2) := by decide +kernel
theorem jd_Content_copyFrom_7 : decode mi_Content_copyFrom.2.1 7 = .ok (.invokestatic 42, 3) := by decide +kernel
theorem jd_Content_copyFrom_10 : decode mi_Content_copyFrom.2.1 10 = .ok (.putfield 15, 3) := by decide +kernel
theorem jd_Content_copyFrom_13 : decode mi_Content_copyFrom.2.1 13 = .ok (.aload_n 0, 1) := by decide +kernel
theorem jd_Content_copyFrom_14 : decode mi_Content_copyFrom.2.1 14 = .ok (.aload_n 1, 1) := by decide +kernel
theorem jd_Content_copyFrom_15 : decode mi_Content_copyFrom.2.1 15 = .ok (.invokevirtual 48, 3) := by decide +kernel
theorem jd_Content_copyFrom_18 : decode mi_Content_copyFrom.2.1 18 = .ok (.putfield 19, 3) := by decide +kernel
theorem jd_Content_copyFrom_21 : decode mi_Content_copyFrom.2.1 21 = .ok (.iconst 0, 1) := by decide +kernel
theorem jd_Content_copyFrom_22 : decode mi_Content_copyFrom.2.1 22 = .ok (.istore_n 2, 1) := by decide +kernel
theorem jd_Content_copyFrom_23 : decode mi_Content_copyFrom.2.1 23 = .ok (.iload_n 2, 1) := by decide +kernel
theorem jd_Content_copyFrom_24 : decode mi_Content_copyFrom.2.1 24 = .ok (.aload_n 0, 1) := by decide +kernel
theorem jd_Content_copyFrom_25 : decode mi_Content_copyFrom.2.1 25 = .ok (.getfield 15, 3) := by decide +kernel
theorem jd_Content_copyFrom_28 : decode mi_Content_copyFrom.2.1 28 = .ok (.if_icmp .ge 20, 3) := by decide +kernel
theorem jd_Content_copyFrom_31 : decode mi_Content_copyFrom.2.1 31 = .ok (.aload_n 0, 1) := by decide +kernel
theorem jd_Content_copyFrom_32 : decode mi_Content_copyFrom.2.1 32 = .ok (.getfield 9, 3) := by decide +kernel
theorem jd_Content_copyFrom_35 : decode mi_Content_copyFrom.2.1 35 = .ok (.iload_n 2, 1) := by decide +kernel
theorem jd_Content_copyFrom_36 : decode mi_Content_copyFrom.2.1 36 = .ok (.aload_n 1, 1) := by decide +kernel
theorem jd_Content_copyFrom_37 : decode mi_Content_copyFrom.2.1 37 = .ok (.iload_n 2, 1) := by decide +kernel
theorem jd_Content_copyFrom_38 : decode mi_Content_copyFrom.2.1 38 = .ok (.invokevirtual 31, 3) := by decide +kernel
theorem jd_Content_copyFrom_41 : decode mi_Content_copyFrom.2.1 41 = .ok (.iastore, 1) := by decide +kernel
theorem jd_Content_copyFrom_42 : decode mi_Content_copyFrom.2.1 42 = .ok (.iinc 2 1, 3) := by decide +kernel
theorem jd_Content_copyFrom_45 : decode mi_Content_copyFrom.2.1 45 = .ok (.goto (-22), 3) := by decide +kernel
theorem jd_Content_copyFrom_48 : decode mi_Content_copyFrom.2.1 48 = .ok (.return_, 1) := by decide +kernel
theorem jd_Content_insert_0 : decode mi_Content_insert.2.1 0 = .ok (.iload_n 1, 1) := by decide +kernel
theorem jd_Content_insert_1 : decode mi_Content_insert.2.1 1 = .ok (.ifCond .lt 20, 3) := by decide +kernel
theorem jd_Content_insert_4 : decode mi_Content_insert.2.1 4 = .ok (.iload_n 1, 1) := by decide +kernel
theorem jd_Content_insert_5 : decode mi_Content_insert.2.1 5 = .ok (.aload_n 0, 1) := by decide +kernel
theorem jd_Content_insert_6 : decode mi_Content_insert.2.1 6 = .ok (.getfield 15, 3) := by decide +kernel
theorem jd_Content_insert_9 : decode mi_Content_insert.2.1 9 = .ok (.if_icmp .gt 12, 3) := by decide +kernel
theorem jd_Content_insert_12 : decode mi_Content_insert.2.1 12 = .ok (.aload_n 0, 1) := by decide +kernel
theorem jd_Content_insert_13 : decode mi_Content_insert.2.1 13 = .ok (.getfield 15, 3) := by decide +kernel
theorem jd_Content_insert_16 : decode mi_Content_insert.2.1 16 = .ok (.bipush 10, 2) := by decide +kernel
theorem jd_Content_insert_18 : decode mi_Content_insert.2.1 18 = .ok (.if_icmp .lt 4, 3) := by decide +kernel
theorem jd_Content_insert_21 : decode mi_Content_insert.2.1 21 = .ok (.return_, 1) := by decide +kernel
theorem jd_Content_insert_22 : decode mi_Content_insert.2.1 22 = .ok (.aload_n 0, 1) := by decide +kernel
theorem jd_Content_insert_23 : decode mi_Content_insert.2.1 23 = .ok (.getfield 15, 3) := by decide +kernel
theorem jd_Content_insert_26 : decode mi_Content_insert.2.1 26 = .ok (.istore_n 3, 1) := by decide +kernel
theorem jd_Content_insert_27 : decode mi_Content_insert.2.1 27 = .ok (.iload_n 3, 1) := by decide +kernel
theorem jd_Content_insert_28 : decode mi_Content_insert.2.1 28 = .ok (.iload_n 1, 1) := by decide +kernel
theorem jd_Content_insert_29 : decode mi_Content_insert.2.1 29 = .ok (.if_icmp .le 23, 3) := by decide +kernel
theorem jd_Content_insert_32 : decode mi_Content_insert.2.1 32 = .ok (.aload_n 0, 1) := by decide +kernel
theorem jd_Content_insert_33 : decode mi_Content_insert.2.1 33 = .ok (.getfield 9, 3) := by decide +kernel
theorem jd_Content_insert_36 : decode mi_Content_insert.2.1 36 = .ok (.iload_n 3, 1) := by decide +kernel
theorem jd_Content_insert_37 : decode mi_Content_insert.2.1 37 = .ok (.aload_n 0, 1) := by decide +kernel
theorem jd_Content_insert_38 : decode mi_Content_insert.2.1 38 = .ok (.getfield 9, 3) := by decide +kernel
theorem jd_Content_insert_41 : decode mi_Content_insert.2.1 41 = .ok (.iload_n 3, 1) := by decide +kernel
theorem jd_Content_insert_42 : decode mi_Content_insert.2.1 42 = .ok (.iconst 1, 1) := by decide +kernel
theorem jd_Content_insert_43 : decode mi_Content_insert.2.1 43 = .ok (.isub, 1) := by decide +kernel
theorem jd_Content_insert_44 : decode mi_Content_insert.2.1 44 = .ok (.iaload, 1) := by decide +kernel
theorem jd_Content_insert_45 : decode mi_Content_insert.2.1 45 = .ok (.iastore, 1) := by decide +kernel
theorem jd_Content_insert_46 : decode mi_Content_insert.2.1 46 = .ok (.iinc 3 (-1), 3) := by decide +kernel
theorem jd_Content_insert_49 : decode mi_Content_insert.2.1 49 = .ok (.goto (-22), 3) := by decide +kernel
theorem jd_Content_insert_52 : decode mi_Content_insert.2.1 52 = .ok (.aload_n 0, 1) := by decide +kernel
theorem jd_Content_insert_53 : decode mi_Content_insert.2.1 53 = .ok (.getfield 9, 3) := by decide +kernel
theorem jd_Content_insert_56 : decode mi_Content_insert.2.1 56 = .ok (.iload_n 1, 1) := by decide +kernel
theorem jd_Content_insert_57 : decode mi_Content_insert.2.1 57 = .ok (.iload_n 2, 1) := by decide +kernel
theorem jd_Content_insert_58 : decode mi_Content_insert.2.1 58 = .ok (.iastore, 1) := by decide +kernel
theorem jd_Content_insert_59 : decode mi_Content_insert.2.1 59 = .ok (.aload_n 0, 1) := by decide +kernel
theorem jd_Content_insert_60 : decode mi_Content_insert.2.1 60 = .ok (.dup, 1) := by decide +kernel
theorem jd_Content_insert_61 : decode mi_Content_insert.2.1 61 = .ok (.getfield 15, 3) := by decide +kernel
theorem jd_Content_insert_64 : decode mi_Content_insert.2.1 64 = .ok (.iconst 1, 1) := by decide +kernel
theorem jd_Content_insert_65 : decode mi_Content_insert.2.1 65 = .ok (.iadd, 1) := by decide +kernel
theorem jd_Content_insert_66 : decode mi_Content_insert.2.1 66 = .ok (.putfield 15, 3) := by decide +kernel
theorem jd_Content_insert_69 : decode mi_Content_insert.2.1 69 = .ok (.aload_n 0, 1) := by decide +kernel
theorem jd_Content_insert_70 : decode mi_Content_insert.2.1 70 = .ok (.iconst 1, 1) := by decide +kernel
theorem jd_Content_insert_71 : decode mi_Content_insert.2.1 71 = .ok (.putfield 19, 3) := by decide +kernel
theorem jd_Content_insert_74 : decode mi_Content_insert.2.1 74 = .ok (.return_, 1) := by decide +kernel
/-- a Content object's two cells: n lines of g, p: whether there is a file -/
def bc_At (o : jw_O) (μ : jw_Mem) (a n : Nat) (p : Int32) (g : Nat → Int32) : Prop := μ a = some (.inr (0, [.ref (a + 1), .int (nI n), .int p])) ∧ μ (a + 1) = some (.inl (o.2.2.1 0, 10, .inl g))
def b01 (p : Int32) : Prop := p = 0 ∨ p = 1
theorem b01.nz {p : Int32} (h : b01 p) : narrow .boolean (.int p) = .int p := by rcases h with rfl | rfl <;> decide
theorem b01.fit {p : Int32} (h : b01 p) : fits .boolean (.int p) = true := by rcases h with rfl | rfl <;> decide
theorem b01.if_ (c : Prop) [Decidable c] : b01 (if c then 1 else 0) := by by_cases h : c <;> simp [b01, h]
theorem bc_At.fr {o : jw_O} {μ μ' : jw_Mem} {a n b m : Nat} {p : Int32} {g : Nat → Int32} (h : bc_At o μ a n p g) (f : jw_Fr μ μ' b m) (hd : a + 2 ≤ b ∨ b + m ≤ a) : bc_At o μ' a n p g := ⟨(f _ (by omega)).trans h.1, (f _ (by omega)).trans h.2⟩
section
variable {o : jw_O} {μ : jw_Mem} {hs a n : Nat} {p : Int32} {g : Nat → Int32}
theorem bc_init {v : Value} {x y : Int32} (ha : μ a = some (.inr (0, [v, .int x, .int y]))) : jw_Spec mi_Content_init 1 1 10 o [.ref a] μ (a + 1) (fun v μ' s' => v = none ∧ s' = a + 2 ∧ bc_At o μ' a 0 0 (fun _ => 0) ∧ jw_Fr μ μ' a 2) := by
  refine jw_spec (by decide +kernel) (Nat.le_of_ble_eq_true rfl) rfl (fun k hR hE => ?_)
  have hF : jw_Fr μ μ a 2 := jw_Fr.rf
  refine jw_aload_n (pc' := 1) jd_Content_init_0 rfl rfl rfl ?_
  refine jw_objInit (pc' := 4) hR jq_105 jd_Content_init_1 (Nat.le_of_ble_eq_true rfl) (by omega) rfl ?_
  refine jw_aload_n (pc' := 5) jd_Content_init_4 rfl rfl rfl ?_
  refine jw_bipush (pc' := 7) (v := nI 10) jd_Content_init_5 (by decide +kernel) rfl ?_
  refine jw_newa (pc' := 9) (N := 10) (i := 0) (a0 := (10, .inl (fun _ => 0))) (ty := .int) (atype := .int) hR jq_116 rfl rfl jd_Content_init_7 (fun _ => rfl) (by decide +kernel) (by decide +kernel) (by decide +kernel) (by omega) (by omega) rfl (fun μ hb f9 => ?_)
  have ha := (f9 _ (by omega)).trans ha
  have hF := jw_Fr.step hF f9 (by omega)
  refine jw_putF (pc' := 12) (kf := 0) (ty := (.array .int)) (fs' := [_, _, _]) jc_Content (by decide) jq_106 jd_Content_init_9 rfl rfl rfl (by decide +kernel) (by assumption) rfl rfl rfl (Nat.le_of_ble_eq_true rfl) rfl (fun μ ha f9 => ?_)
  have hb := (f9 _ (by omega)).trans hb
  have hF := jw_Fr.step hF f9 (by omega)
  refine jw_aload_n (pc' := 13) jd_Content_init_12 rfl rfl rfl ?_
  refine jw_iconst (pc' := 14) (v := nI 0) jd_Content_init_13 (by decide +kernel) rfl ?_
  refine jw_put (pc' := 17) (kf := 1) (ty := .int) (fs' := [_, _, _]) jc_Content (by decide) jq_107 jd_Content_init_14 rfl (by decide +kernel) (by assumption) rfl rfl rfl (Nat.le_of_ble_eq_true rfl) rfl (fun μ ha f9 => ?_)
  have hb := (f9 _ (by omega)).trans hb
  have hF := jw_Fr.step hF f9 (by omega)
  refine jw_aload_n (pc' := 18) jd_Content_init_17 rfl rfl rfl ?_
  refine jw_iconst (pc' := 19) (v := nI 0) jd_Content_init_18 (by decide +kernel) rfl ?_
  refine jw_put (pc' := 22) (kf := 2) (ty := .boolean) (fs' := [_, _, _]) jc_Content (by decide) jq_108 jd_Content_init_19 rfl (by decide +kernel) (by assumption) rfl rfl rfl (Nat.le_of_ble_eq_true rfl) rfl (fun μ ha f9 => ?_)
  have hb := (f9 _ (by omega)).trans hb
  have hF := jw_Fr.step hF f9 (by omega)
  refine jw_vret hE jd_Content_init_22 rfl (by omega) (by omega) ?_
  exact ⟨rfl, rfl, ⟨ha, hb⟩, hF⟩
theorem bc_exists (h : bc_At o μ a n p g) (hp : b01 p) : jw_Ro mi_Content_exists 0 o [.ref a] μ hs (some (.int p)) := by
  refine jw_ro (by decide +kernel) (Nat.le_of_ble_eq_true rfl) rfl (fun k hR hE => ?_)
  obtain ⟨ha, hb⟩ := h
  refine jw_aload_n (pc' := 1) jd_Content_exists_0 rfl rfl rfl ?_
  refine jw_get (pc' := 4) (kf := 2) jc_Content (by decide) jq_108 jd_Content_exists_1 (by assumption) rfl rfl ?_
  exact jw_zret hE jd_Content_exists_4 rfl hp.nz (by omega) (by omega) ⟨rfl, rfl, rfl⟩
theorem bc_length (h : bc_At o μ a n p g) : jw_Ro mi_Content_length 0 o [.ref a] μ hs (some (.int (nI n))) := by
  refine jw_ro (by decide +kernel) (Nat.le_of_ble_eq_true rfl) rfl (fun k hR hE => ?_)
  obtain ⟨ha, hb⟩ := h
  refine jw_aload_n (pc' := 1) jd_Content_length_0 rfl rfl rfl ?_
  refine jw_get (pc' := 4) (kf := 1) jc_Content (by decide) jq_107 jd_Content_length_1 (by assumption) rfl rfl ?_
  refine jw_iret hE jd_Content_length_4 rfl (by omega) (by omega) ?_
  exact ⟨rfl, rfl, rfl⟩
theorem bc_isFull (h : bc_At o μ a n p g) (hn : n ≤ 10) : jw_Ro mi_Content_isFull 0 o [.ref a] μ hs (some (.int (if n < 10 then 0 else 1))) := by
  refine jw_ro (by decide +kernel) (Nat.le_of_ble_eq_true rfl) rfl (fun k hR hE => ?_)
  obtain ⟨ha, hb⟩ := h
  refine jw_aload_n (pc' := 1) jd_Content_isFull_0 rfl rfl rfl ?_
  refine jw_get (pc' := 4) (kf := 1) jc_Content (by decide) jq_107 jd_Content_isFull_1 (by assumption) rfl rfl ?_
  refine jw_bipush (pc' := 6) (v := nI 10) jd_Content_isFull_4 (by decide +kernel) rfl ?_
  refine jw_icmp_lt (tgt := 13) (pc' := 9) jd_Content_isFull_6 (by decide) rfl (fun c => ?_) (fun c => ?_)
  · have h2 : n < 10 := (nI_ltI (by omega) (by omega)).mp c
    refine jw_iconst (pc' := 14) (v := nI 0) jd_Content_isFull_13 (by decide +kernel) rfl ?_
    refine jw_zret hE jd_Content_isFull_14 rfl (by first | exact vp_nar_int _ | decide +kernel) (by omega) (by omega) ?_
    rw [if_pos h2]
    exact ⟨rfl, rfl, rfl⟩
  · have h2 : ¬ n < 10 := fun z => c ((nI_ltI (by omega) (by omega)).mpr z)
    refine jw_iconst (pc' := 10) (v := nI 1) jd_Content_isFull_9 (by decide +kernel) rfl ?_
    refine jw_goto (tgt := 14) jd_Content_isFull_10 (by decide) ?_
    refine jw_zret hE jd_Content_isFull_14 rfl (by first | exact vp_nar_int _ | decide +kernel) (by omega) (by omega) ?_
    rw [if_neg h2]
    exact ⟨rfl, rfl, rfl⟩
theorem bc_lineAt {j : Nat} (h : bc_At o μ a n p g) (hn : n ≤ 10) (hj : j < n) : jw_Ro mi_Content_lineAt 0 o [.ref a, .int (nI j)] μ hs (some (.int (g j))) := by
  refine jw_ro (by decide +kernel) (Nat.le_of_ble_eq_true rfl) rfl (fun k hR hE => ?_)
  obtain ⟨ha, hb⟩ := h
  refine jw_iload_n (pc' := 1) jd_Content_lineAt_0 rfl rfl rfl ?_
  refine jw_if_lt (tgt := 27) (pc' := 4) jd_Content_lineAt_1 (by decide) rfl (fun c => ?_) (fun c => ?_)
  · exact absurd c (nI_pos (by omega))
  refine jw_iload_n (pc' := 5) jd_Content_lineAt_4 rfl rfl rfl ?_
  refine jw_aload_n (pc' := 6) jd_Content_lineAt_5 rfl rfl rfl ?_
  refine jw_get (pc' := 9) (kf := 1) jc_Content (by decide) jq_107 jd_Content_lineAt_6 (by assumption) rfl rfl ?_
  refine jw_icmp_ge (tgt := 27) (pc' := 12) jd_Content_lineAt_9 (by decide) rfl (fun c => ?_) (fun c => ?_)
  · exact absurd ((nI_leI (by omega) (by omega)).mp c) (by omega)
  refine jw_iload_n (pc' := 13) jd_Content_lineAt_12 rfl rfl rfl ?_
  refine jw_bipush (pc' := 15) (v := nI 10) jd_Content_lineAt_13 (by decide +kernel) rfl ?_
  refine jw_icmp_ge (tgt := 27) (pc' := 18) jd_Content_lineAt_15 (by decide) rfl (fun c => ?_) (fun c => ?_)
  · exact absurd ((nI_leI (a := 10) (by omega) (by omega)).mp c) (by omega)
  refine jw_aload_n (pc' := 19) jd_Content_lineAt_18 rfl rfl rfl ?_
  refine jw_get (pc' := 22) (kf := 0) jc_Content (by decide) jq_106 jd_Content_lineAt_19 (by assumption) rfl rfl ?_
  refine jw_iload_n (pc' := 23) jd_Content_lineAt_22 rfl rfl rfl ?_
  refine jw_iald (pc' := 24) (i := 0) jd_Content_lineAt_23 (by assumption) rfl (vp_in_nI (by omega) (by omega)) (congrArg g (nI_clamp (by omega))) rfl ?_
  refine jw_goto (tgt := 28) jd_Content_lineAt_24 (by decide) ?_
  refine jw_iret hE jd_Content_lineAt_28 rfl (by omega) (by omega) ?_
  exact ⟨rfl, rfl, rfl⟩
theorem bc_becomeAbsent (h : bc_At o μ a n p g) : jw_Spec mi_Content_becomeAbsent 0 0 0 o [.ref a] μ hs (fun v μ' s' => v = none ∧ s' = hs ∧ bc_At o μ' a 0 0 g ∧ jw_Fr μ μ' a 2) := by
  refine jw_spec (by decide +kernel) (Nat.le_of_ble_eq_true rfl) rfl (fun k hR hE => ?_)
  obtain ⟨ha, hb⟩ := h
  have hF : jw_Fr μ μ a 2 := jw_Fr.rf
  refine jw_aload_n (pc' := 1) jd_Content_becomeAbsent_0 rfl rfl rfl ?_
  refine jw_iconst (pc' := 2) (v := nI 0) jd_Content_becomeAbsent_1 (by decide +kernel) rfl ?_
  refine jw_put (pc' := 5) (kf := 1) (ty := .int) (fs' := [_, _, _]) jc_Content (by decide) jq_107 jd_Content_becomeAbsent_2 rfl (by decide +kernel) (by assumption) rfl rfl rfl (Nat.le_of_ble_eq_true rfl) rfl (fun μ ha f9 => ?_)
  have hb := (f9 _ (by omega)).trans hb
  have hF := jw_Fr.step hF f9 (by omega)
  refine jw_aload_n (pc' := 6) jd_Content_becomeAbsent_5 rfl rfl rfl ?_
  refine jw_iconst (pc' := 7) (v := nI 0) jd_Content_becomeAbsent_6 (by decide +kernel) rfl ?_
  refine jw_put (pc' := 10) (kf := 2) (ty := .boolean) (fs' := [_, _, _]) jc_Content (by decide) jq_108 jd_Content_becomeAbsent_7 rfl (by decide +kernel) (by assumption) rfl rfl rfl (Nat.le_of_ble_eq_true rfl) rfl (fun μ ha f9 => ?_)
  have hb := (f9 _ (by omega)).trans hb
  have hF := jw_Fr.step hF f9 (by omega)
  refine jw_vret hE jd_Content_becomeAbsent_10 rfl (by omega) (by omega) ?_
  exact ⟨rfl, rfl, ⟨ha, hb⟩, hF⟩
/-- whether two contents are the same -/
def bc_same (n m : Nat) (p q : Int32) (f g : Nat → Int32) : Prop := p = q ∧ n = m ∧ ∀ j, j < n → f j = g j
theorem bc_sameAs {b m : Nat} {q : Int32} {f : Nat → Int32} (h : bc_At o μ a n p g) (hp : b01 p) (hn : n ≤ 10) (h2 : bc_At o μ b m q f) (hq : b01 q) (hm : m ≤ 10) {r : Int32} (hr : (r = 1 ∧ bc_same n m p q g f) ∨ (r = 0 ∧ ¬ bc_same n m p q g f)) : jw_Ro mi_Content_sameAs 1 o [.ref a, .ref b] μ hs (some (.int r)) := by
  refine jw_ro (by decide +kernel) (Nat.le_of_ble_eq_true rfl) rfl (fun k hR hE => ?_)
  have h1 := h
  obtain ⟨ha, ha1⟩ := h
  have hb := h2.1
  have hno : ¬ bc_same n m p q g f → r = 0 := fun z => hr.elim (fun y => absurd y.2 z) (fun y => y.1)
  have hyes : bc_same n m p q g f → r = 1 := fun z => hr.elim (fun y => y.1) (fun y => absurd z y.2)
  refine jw_aload_n (pc' := 1) jd_Content_sameAs_0 rfl rfl rfl ?_
  refine jw_get (pc' := 4) (kf := 2) jc_Content (by decide) jq_108 jd_Content_sameAs_1 (by assumption) rfl rfl ?_
  refine jw_aload_n (pc' := 5) jd_Content_sameAs_4 rfl rfl rfl ?_
  refine jw_callV0 (pc' := 8) hR (bc_exists h2 hq) jm_Content_exists jq_537 jc_Content jd_Content_sameAs_5 (by assumption) rfl rfl (Nat.le_of_ble_eq_true rfl) (by omega) (by decide) (by omega) (by omega) rfl rfl ?_
  refine jw_icmp_ne (tgt := 22) (pc' := 11) jd_Content_sameAs_8 (by decide) rfl (fun c => ?_) (fun c => ?_)
  · refine jw_iconst (pc' := 23) (v := nI 0) jd_Content_sameAs_22 (by decide +kernel) rfl ?_
    refine jw_zret hE jd_Content_sameAs_23 rfl (by first | exact vp_nar_int _ | decide +kernel) (by omega) (by omega) ?_
    have h0 := hno (fun z => c (by rw [z.1]))
    subst h0
    exact ⟨rfl, rfl, rfl⟩
  refine jw_aload_n (pc' := 12) jd_Content_sameAs_11 rfl rfl rfl ?_
  refine jw_get (pc' := 15) (kf := 1) jc_Content (by decide) jq_107 jd_Content_sameAs_12 (by assumption) rfl rfl ?_
  refine jw_aload_n (pc' := 16) jd_Content_sameAs_15 rfl rfl rfl ?_
  refine jw_callV0 (pc' := 19) hR (bc_length h2) jm_Content_length jq_538 jc_Content jd_Content_sameAs_16 (by assumption) rfl rfl (Nat.le_of_ble_eq_true rfl) (by omega) (by decide) (by omega) (by omega) rfl rfl ?_
  refine jw_icmp_eq (tgt := 24) (pc' := 22) jd_Content_sameAs_19 (by decide) rfl (fun c2 => ?_) (fun c2 => ?_)
  rotate_left
  · refine jw_iconst (pc' := 23) (v := nI 0) jd_Content_sameAs_22 (by decide +kernel) rfl ?_
    refine jw_zret hE jd_Content_sameAs_23 rfl (by first | exact vp_nar_int _ | decide +kernel) (by omega) (by omega) ?_
    have h0 := hno (fun z => c2 (by rw [z.2.1]))
    subst h0
    exact ⟨rfl, rfl, rfl⟩
  have hnm : n = m := (nI_eq (by omega) (by omega)).mp c2
  refine jw_iconst (pc' := 25) (v := nI 0) jd_Content_sameAs_24 (by decide +kernel) rfl ?_
  refine jw_istore_n (pc' := 26) (lc' := [(0, _), (1, _), (2, _)]) jd_Content_sameAs_25 rfl (Nat.le_of_ble_eq_true rfl) ⟨rfl, rfl, rfl, trivial⟩ rfl ?_
  have loop : ∀ d i : Nat, i + d = n → (∀ j, j < i → g j = f j) → jw_X mi_Content_sameAs o k 0 0 26 [(0, .ref a), (1, .ref b), (2, .int (nI i))] [] μ hs := by
    intro d
    induction d with
    | zero =>
      intro i hi hs1
      refine jw_iload_n (pc' := 27) jd_Content_sameAs_26 rfl rfl rfl ?_
      refine jw_aload_n (pc' := 28) jd_Content_sameAs_27 rfl rfl rfl ?_
      refine jw_get (pc' := 31) (kf := 1) jc_Content (by decide) jq_107 jd_Content_sameAs_28 (by assumption) rfl rfl ?_
      refine jw_icmp_ge (tgt := 56) (pc' := 34) jd_Content_sameAs_31 (by decide) rfl (fun c3 => ?_) (fun c3 => ?_)
      · refine jw_iconst (pc' := 57) (v := nI 1) jd_Content_sameAs_56 (by decide +kernel) rfl ?_
        refine jw_zret hE jd_Content_sameAs_57 rfl (by first | exact vp_nar_int _ | decide +kernel) (by omega) (by omega) ?_
        have h0 := hyes ⟨c, hnm, fun j hj => hs1 j (by omega)⟩
        subst h0
        exact ⟨rfl, rfl, rfl⟩
      · exact absurd (nI_le (by omega) (by omega)) c3
    | succ d ih =>
      intro i hi hs1
      refine jw_iload_n (pc' := 27) jd_Content_sameAs_26 rfl rfl rfl ?_
      refine jw_aload_n (pc' := 28) jd_Content_sameAs_27 rfl rfl rfl ?_
      refine jw_get (pc' := 31) (kf := 1) jc_Content (by decide) jq_107 jd_Content_sameAs_28 (by assumption) rfl rfl ?_
      refine jw_icmp_ge (tgt := 56) (pc' := 34) jd_Content_sameAs_31 (by decide) rfl (fun c3 => ?_) (fun c3 => ?_)
      · exact absurd ((nI_leI (by omega) (by omega)).mp c3) (by omega)
      refine jw_aload_n (pc' := 35) jd_Content_sameAs_34 rfl rfl rfl ?_
      refine jw_get (pc' := 38) (kf := 0) jc_Content (by decide) jq_106 jd_Content_sameAs_35 (by assumption) rfl rfl ?_
      refine jw_iload_n (pc' := 39) jd_Content_sameAs_38 rfl rfl rfl ?_
      refine jw_iald (pc' := 40) (i := 0) jd_Content_sameAs_39 (by assumption) rfl (vp_in_nI (by omega) (by omega)) (congrArg g (nI_clamp (by omega))) rfl ?_
      refine jw_aload_n (pc' := 41) jd_Content_sameAs_40 rfl rfl rfl ?_
      refine jw_iload_n (pc' := 42) jd_Content_sameAs_41 rfl rfl rfl ?_
      refine jw_callV0 (pc' := 45) hR (bc_lineAt h2 hm (by omega)) jm_Content_lineAt jq_539 jc_Content jd_Content_sameAs_42 (by assumption) rfl rfl (Nat.le_of_ble_eq_true rfl) (by omega) (by decide) (by omega) (by omega) rfl rfl ?_
      refine jw_icmp_eq (tgt := 50) (pc' := 48) jd_Content_sameAs_45 (by decide) rfl (fun c4 => ?_) (fun c4 => ?_)
      · refine jw_iinc (pc' := 53) (lc' := [(0, _), (1, _), (2, _)]) jd_Content_sameAs_50 rfl (nI_1 _) (Nat.le_of_ble_eq_true rfl) ⟨rfl, rfl, rfl, trivial⟩ rfl ?_
        refine jw_goto (tgt := 26) jd_Content_sameAs_53 (by decide) ?_
        exact ih (i + 1) (by omega) (fun j hj => by
          rcases Nat.lt_or_ge j i with z | z
          · exact hs1 j z
          · rw [show j = i by omega]; exact c4)
      · refine jw_iconst (pc' := 49) (v := nI 0) jd_Content_sameAs_48 (by decide +kernel) rfl ?_
        refine jw_zret hE jd_Content_sameAs_49 rfl (by first | exact vp_nar_int _ | decide +kernel) (by omega) (by omega) ?_
        have h0 := hno (fun z => c4 (z.2.2 i (by omega)))
        subst h0
        exact ⟨rfl, rfl, rfl⟩
  exact loop n 0 (by omega) (fun j hj => by omega)
end
