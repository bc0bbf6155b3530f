theorem jd_History_numberOfTree_0 : decode mi_History_numberOfTree.2.1 0 = .ok (.iconst 0, 1) := by decide +kernel
theorem jd_History_numberOfTree_1 : decode mi_History_numberOfTree.2.1 1 = .ok (.istore_n 2, 1) := by decide +kernel
theorem jd_History_numberOfTree_2 : decode mi_History_numberOfTree.2.1 2 = .ok (.iload_n 2, 1) := by decide +kernel
theorem jd_History_numberOfTree_3 : decode mi_History_numberOfTree.2.1 3 = .ok (.iload_n 1, 1) := by decide +kernel
theorem jd_History_numberOfTree_4 : decode mi_History_numberOfTree.2.1 4 = .ok (.if_icmp .ge 27, 3) := by decide +kernel
theorem jd_History_numberOfTree_7 : decode mi_History_numberOfTree.2.1 7 = .ok (.aload_n 0, 1) := by decide +kernel
theorem jd_History_numberOfTree_8 : decode mi_History_numberOfTree.2.1 8 = .ok (.iload_n 2, 1) := by decide +kernel
theorem jd_History_numberOfTree_9 : decode mi_History_numberOfTree.2.1 9 = .ok (.invokevirtual 88, 3) := by decide +kernel
theorem jd_History_numberOfTree_12 : decode mi_History_numberOfTree.2.1 12 = .ok (.aload_n 0, 1) := by decide +kernel
theorem jd_History_numberOfTree_13 : decode mi_History_numberOfTree.2.1 13 = .ok (.iload_n 1, 1) := by decide +kernel
theorem jd_History_numberOfTree_14 : decode mi_History_numberOfTree.2.1 14 = .ok (.invokevirtual 88, 3) := by decide +kernel
theorem jd_History_numberOfTree_17 : decode mi_History_numberOfTree.2.1 17 = .ok (.invokevirtual 108, 3) := by decide +kernel
theorem jd_History_numberOfTree_20 : decode mi_History_numberOfTree.2.1 20 = .ok (.ifCond .eq 5, 3) := by decide +kernel
theorem jd_History_numberOfTree_23 : decode mi_History_numberOfTree.2.1 23 = .ok (.iload_n 2, 1) := by decide +kernel
theorem jd_History_numberOfTree_24 : decode mi_History_numberOfTree.2.1 24 = .ok (.ireturn, 1) := by decide +kernel
theorem jd_History_numberOfTree_25 : decode mi_History_numberOfTree.2.1 25 = .ok (.iinc 2 1, 3) := by decide +kernel
theorem jd_History_numberOfTree_28 : decode mi_History_numberOfTree.2.1 28 = .ok (.goto (-26), 3) := by decide +kernel
theorem jd_History_numberOfTree_31 : decode mi_History_numberOfTree.2.1 31 = .ok (.iload_n 1, 1) := by decide +kernel
theorem jd_History_numberOfTree_32 : decode mi_History_numberOfTree.2.1 32 = .ok (.ireturn, 1) := by decide +kernel
theorem jd_History_numberOfContent_0 : decode mi_History_numberOfContent.2.1 0 = .ok (.aload_n 0, 1) := by decide +kernel
theorem jd_History_numberOfContent_1 : decode mi_History_numberOfContent.2.1 1 = .ok (.iload_n 1, 1) := by decide +kernel
theorem jd_History_numberOfContent_2 : decode mi_History_numberOfContent.2.1 2 = .ok (.invokevirtual 88, 3) := by decide +kernel
theorem jd_History_numberOfContent_5 : decode mi_History_numberOfContent.2.1 5 = .ok (.iload_n 2, 1) := by decide +kernel
theorem jd_History_numberOfContent_6 : decode mi_History_numberOfContent.2.1 6 = .ok (.invokevirtual 92, 3) := by decide +kernel
theorem jd_History_numberOfContent_9 : decode mi_History_numberOfContent.2.1 9 = .ok (.astore_n 3, 1) := by decide +kernel
theorem jd_History_numberOfContent_10 : decode mi_History_numberOfContent.2.1 10 = .ok (.aload_n 3, 1) := by decide +kernel
theorem jd_History_numberOfContent_11 : decode mi_History_numberOfContent.2.1 11 = .ok (.invokevirtual 112, 3) := by decide +kernel
theorem jd_History_numberOfContent_14 : decode mi_History_numberOfContent.2.1 14 = .ok (.ifCond .ne 5, 3) := by decide +kernel
theorem jd_History_numberOfContent_17 : decode mi_History_numberOfContent.2.1 17 = .ok (.iconst (-1), 1) := by decide +kernel
theorem jd_History_numberOfContent_18 : decode mi_History_numberOfContent.2.1 18 = .ok (.ireturn, 1) := by decide +kernel
theorem jd_History_numberOfContent_19 : decode mi_History_numberOfContent.2.1 19 = .ok (.iload_n 1, 1) := by decide +kernel
theorem jd_History_numberOfContent_20 : decode mi_History_numberOfContent.2.1 20 = .ok (.bipush 12, 2) := by decide +kernel
theorem jd_History_numberOfContent_22 : decode mi_History_numberOfContent.2.1 22 = .ok (.imul, 1) := by decide +kernel
theorem jd_History_numberOfContent_23 : decode mi_History_numberOfContent.2.1 23 = .ok (.iload_n 2, 1) := by decide +kernel
theorem jd_History_numberOfContent_24 : decode mi_History_numberOfContent.2.1 24 = .ok (.iadd, 1) := by decide +kernel
theorem jd_History_numberOfContent_25 : decode mi_History_numberOfContent.2.1 25 = .ok (.istore 4, 2) := by decide +kernel
theorem jd_History_numberOfContent_27 : decode mi_History_numberOfContent.2.1 27 = .ok (.iconst 0, 1) := by decide +kernel
theorem jd_History_numberOfContent_28 : decode mi_History_numberOfContent.2.1 28 = .ok (.istore 5, 2) := by decide +kernel
theorem jd_History_numberOfContent_30 : decode mi_History_numberOfContent.2.1 30 = .ok (.iload 5, 2) := by decide +kernel
theorem jd_History_numberOfContent_32 : decode mi_History_numberOfContent.2.1 32 = .ok (.iload 4, 2) := by decide +kernel
theorem jd_History_numberOfContent_34 : decode mi_History_numberOfContent.2.1 34 = .ok (.if_icmp .ge 36, 3) := by decide +kernel
theorem jd_History_numberOfContent_37 : decode mi_History_numberOfContent.2.1 37 = .ok (.aload_n 3, 1) := by decide +kernel
theorem jd_History_numberOfContent_38 : decode mi_History_numberOfContent.2.1 38 = .ok (.aload_n 0, 1) := by decide +kernel
theorem jd_History_numberOfContent_39 : decode mi_History_numberOfContent.2.1 39 = .ok (.iload 5, 2) := by decide +kernel
theorem jd_History_numberOfContent_41 : decode mi_History_numberOfContent.2.1 41 = .ok (.bipush 12, 2) := by decide +kernel
theorem jd_History_numberOfContent_43 : decode mi_History_numberOfContent.2.1 43 = .ok (.idiv, 1) := by decide +kernel
theorem jd_History_numberOfContent_44 : decode mi_History_numberOfContent.2.1 44 = .ok (.invokevirtual 88, 3) := by decide +kernel
theorem jd_History_numberOfContent_47 : decode mi_History_numberOfContent.2.1 47 = .ok (.iload 5, 2) := by decide +kernel
theorem jd_History_numberOfContent_49 : decode mi_History_numberOfContent.2.1 49 = .ok (.bipush 12, 2) := by decide +kernel
theorem jd_History_numberOfContent_51 : decode mi_History_numberOfContent.2.1 51 = .ok (.irem, 1) := by decide +kernel
theorem jd_History_numberOfContent_52 : decode mi_History_numberOfContent.2.1 52 = .ok (.invokevirtual 92, 3) := by decide +kernel
theorem jd_History_numberOfContent_55 : decode mi_History_numberOfContent.2.1 55 = .ok (.invokevirtual 116, 3) := by decide +kernel
theorem jd_History_numberOfContent_58 : decode mi_History_numberOfContent.2.1 58 = .ok (.ifCond .eq 6, 3) := by decide +kernel
theorem jd_History_numberOfContent_61 : decode mi_History_numberOfContent.2.1 61 = .ok (.iload 5, 2) := by decide +kernel
theorem jd_History_numberOfContent_63 : decode mi_History_numberOfContent.2.1 63 = .ok (.ireturn, 1) := by decide +kernel
theorem jd_History_numberOfContent_64 : decode mi_History_numberOfContent.2.1 64 = .ok (.iinc 5 1, 3) := by decide +kernel
theorem jd_History_numberOfContent_67 : decode mi_History_numberOfContent.2.1 67 = .ok (.goto (-37), 3) := by decide +kernel
theorem jd_History_numberOfContent_70 : decode mi_History_numberOfContent.2.1 70 = .ok (.iload 4, 2) := by decide +kernel
theorem jd_History_numberOfContent_72 : decode mi_History_numberOfContent.2.1 72 = .ok (.ireturn, 1) := by decide +kernel
theorem jd_History_add_0 : decode mi_History_add.2.1 0 = .ok (.aload_n 0, 1) := by decide +kernel
theorem jd_History_add_1 : decode mi_History_add.2.1 1 = .ok (.getfield 41, 3) := by decide +kernel
theorem jd_History_add_4 : decode mi_History_add.2.1 4 = .ok (.bipush 30, 2) := by decide +kernel
theorem jd_History_add_6 : decode mi_History_add.2.1 6 = .ok (.if_icmp .lt 5, 3) := by decide +kernel
theorem jd_History_add_9 : decode mi_History_add.2.1 9 = .ok (.iconst (-1), 1) := by decide +kernel
theorem jd_History_add_10 : decode mi_History_add.2.1 10 = .ok (.ireturn, 1) := by decide +kernel
theorem jd_History_add_11 : decode mi_History_add.2.1 11 = .ok (.aload_n 0, 1) := by decide +kernel
theorem jd_History_add_12 : decode mi_History_add.2.1 12 = .ok (.getfield 41, 3) := by decide +kernel
theorem jd_History_add_15 : decode mi_History_add.2.1 15 = .ok (.istore 5, 2) := by decide +kernel
theorem jd_History_add_17 : decode mi_History_add.2.1 17 = .ok (.aload_n 0, 1) := by decide +kernel
theorem jd_History_add_18 : decode mi_History_add.2.1 18 = .ok (.getfield 11, 3) := by decide +kernel
theorem jd_History_add_21 : decode mi_History_add.2.1 21 = .ok (.iload 5, 2) := by decide +kernel
theorem jd_History_add_23 : decode mi_History_add.2.1 23 = .ok (.aaload, 1) := by decide +kernel
theorem jd_History_add_24 : decode mi_History_add.2.1 24 = .ok (.aload_n 1, 1) := by decide +kernel
theorem jd_History_add_25 : decode mi_History_add.2.1 25 = .ok (.invokevirtual 56, 3) := by decide +kernel
theorem jd_History_add_28 : decode mi_History_add.2.1 28 = .ok (.aload_n 0, 1) := by decide +kernel
theorem jd_History_add_29 : decode mi_History_add.2.1 29 = .ok (.getfield 22, 3) := by decide +kernel
theorem jd_History_add_32 : decode mi_History_add.2.1 32 = .ok (.iload 5, 2) := by decide +kernel
theorem jd_History_add_34 : decode mi_History_add.2.1 34 = .ok (.iload_n 2, 1) := by decide +kernel
theorem jd_History_add_35 : decode mi_History_add.2.1 35 = .ok (.iastore, 1) := by decide +kernel
theorem jd_History_add_36 : decode mi_History_add.2.1 36 = .ok (.aload_n 0, 1) := by decide +kernel
theorem jd_History_add_37 : decode mi_History_add.2.1 37 = .ok (.getfield 26, 3) := by decide +kernel
theorem jd_History_add_40 : decode mi_History_add.2.1 40 = .ok (.iload 5, 2) := by decide +kernel
theorem jd_History_add_42 : decode mi_History_add.2.1 42 = .ok (.iload_n 3, 1) := by decide +kernel
theorem jd_History_add_43 : decode mi_History_add.2.1 43 = .ok (.iastore, 1) := by decide +kernel
theorem jd_History_add_44 : decode mi_History_add.2.1 44 = .ok (.aload_n 0, 1) := by decide +kernel
theorem jd_History_add_45 : decode mi_History_add.2.1 45 = .ok (.getfield 29, 3) := by decide +kernel
theorem jd_History_add_48 : decode mi_History_add.2.1 48 = .ok (.iload 5, 2) := by decide +kernel
theorem jd_History_add_50 : decode mi_History_add.2.1 50 = .ok (.iload 4, 2) := by decide +kernel
theorem jd_History_add_52 : decode mi_History_add.2.1 52 = .ok (.iastore, 1) := by decide +kernel
theorem jd_History_add_53 : decode mi_History_add.2.1 53 = .ok (.aload_n 0, 1) := by decide +kernel
theorem jd_History_add_54 : decode mi_History_add.2.1 54 = .ok (.getfield 32, 3) := by decide +kernel
theorem jd_History_add_57 : decode mi_History_add.2.1 57 = .ok (.iload 5, 2) := by decide +kernel
theorem jd_History_add_59 : decode mi_History_add.2.1 59 = .ok (.aload_n 0, 1) := by decide +kernel
theorem jd_History_add_60 : decode mi_History_add.2.1 60 = .ok (.iload 5, 2) := by decide +kernel
theorem jd_History_add_62 : decode mi_History_add.2.1 62 = .ok (.invokevirtual 60, 3) := by decide +kernel
theorem jd_History_add_65 : decode mi_History_add.2.1 65 = .ok (.iastore, 1) := by decide +kernel
theorem jd_History_add_66 : decode mi_History_add.2.1 66 = .ok (.iconst 0, 1) := by decide +kernel
theorem jd_History_add_67 : decode mi_History_add.2.1 67 = .ok (.istore 6, 2) := by decide +kernel
theorem jd_History_add_69 : decode mi_History_add.2.1 69 = .ok (.iload 6, 2) := by decide +kernel
theorem jd_History_add_71 : decode mi_History_add.2.1 71 = .ok (.bipush 12, 2) := by decide +kernel
theorem jd_History_add_73 : decode mi_History_add.2.1 73 = .ok (.if_icmp .ge 30, 3) := by decide +kernel
theorem jd_History_add_76 : decode mi_History_add.2.1 76 = .ok (.aload_n 0, 1) := by decide +kernel
theorem jd_History_add_77 : decode mi_History_add.2.1 77 = .ok (.getfield 35, 3) := by decide +kernel
theorem jd_History_add_80 : decode mi_History_add.2.1 80 = .ok (.iload 5, 2) := by decide +kernel
theorem jd_History_add_82 : decode mi_History_add.2.1 82 = .ok (.bipush 12, 2) := by decide +kernel
theorem jd_History_add_84 : decode mi_History_add.2.1 84 = .ok (.imul, 1) := by decide +kernel
theorem jd_History_add_85 : decode mi_History_add.2.1 85 = .ok (.iload 6, 2) := by decide +kernel
theorem jd_History_add_87 : decode mi_History_add.2.1 87 = .ok (.iadd, 1) := by decide +kernel
theorem jd_History_add_88 : decode mi_History_add.2.1 88 = .ok (.aload_n 0, 1) := by decide +kernel
theorem jd_History_add_89 : decode mi_History_add.2.1 89 = .ok (.iload 5, 2) := by decide +kernel
theorem jd_History_add_91 : decode mi_History_add.2.1 91 = .ok (.iload 6, 2) := by decide +kernel
theorem jd_History_add_93 : decode mi_History_add.2.1 93 = .ok (.invokevirtual 63, 3) := by decide +kernel
theorem jd_History_add_96 : decode mi_History_add.2.1 96 = .ok (.iastore, 1) := by decide +kernel
theorem jd_History_add_97 : decode mi_History_add.2.1 97 = .ok (.iinc 6 1, 3) := by decide +kernel
theorem jd_History_add_100 : decode mi_History_add.2.1 100 = .ok (.goto (-31), 3) := by decide +kernel
theorem jd_History_add_103 : decode mi_History_add.2.1 103 = .ok (.aload_n 0, 1) := by decide +kernel
theorem jd_History_add_104 : decode mi_History_add.2.1 104 = .ok (.dup, 1) := by decide +kernel
theorem jd_History_add_105 : decode mi_History_add.2.1 105 = .ok (.getfield 45, 3) := by decide +kernel
theorem jd_History_add_108 : decode mi_History_add.2.1 108 = .ok (.iload 5, 2) := by decide +kernel
theorem jd_History_add_110 : decode mi_History_add.2.1 110 = .ok (.invokestatic 48, 3) := by decide +kernel
theorem jd_History_add_113 : decode mi_History_add.2.1 113 = .ok (.ior, 1) := by decide +kernel
theorem jd_History_add_114 : decode mi_History_add.2.1 114 = .ok (.putfield 45, 3) := by decide +kernel
theorem jd_History_add_117 : decode mi_History_add.2.1 117 = .ok (.aload_n 0, 1) := by decide +kernel
theorem jd_History_add_118 : decode mi_History_add.2.1 118 = .ok (.dup, 1) := by decide +kernel
theorem jd_History_add_119 : decode mi_History_add.2.1 119 = .ok (.getfield 41, 3) := by decide +kernel
theorem jd_History_add_122 : decode mi_History_add.2.1 122 = .ok (.iconst 1, 1) := by decide +kernel
theorem jd_History_add_123 : decode mi_History_add.2.1 123 = .ok (.iadd, 1) := by decide +kernel
theorem jd_History_add_124 : decode mi_History_add.2.1 124 = .ok (.putfield 41, 3) := by decide +kernel
theorem jd_History_add_127 : decode mi_History_add.2.1 127 = .ok (.iload 5, 2) := by decide +kernel
theorem jd_History_add_129 : decode mi_History_add.2.1 129 = .ok (.ireturn, 1) := by decide +kernel
/-! a commit is added -/
def HT (o : jw_O) (σ : zS) (Ts : Nat → zT) : Prop := ∀ i, i < 30 → TC o σ (tA o i) (Ts i)
section
variable {o : jw_O} {σ : zS} {Ts : Nat → zT}
theorem h_numT (h : HT o σ Ts) (n : Nat) (hn : n < 30) : zSpec mi_History_numberOfTree 3 o [.ref (zb o + 29), .int (iI n)] σ (fun v s => (∃ x, v = some (.int (iI x))) ∧ s = σ) := by
  refine z_spec (by decide +kernel) (Nat.le_of_ble_eq_true rfl) rfl (fun k hs hR hE => ?_)
  refine zx_iconst (pc' := 1) (n := 0) jd_History_numberOfTree_0 rfl ?_
  refine jw_istore_n (pc' := 2) (lc' := [(0, _), (1, _), (2, _)]) jd_History_numberOfTree_1 rfl (Nat.le_of_ble_eq_true rfl) ⟨rfl, rfl, rfl, trivial⟩ rfl ?_
  have loop : ∀ (d i : Nat), i + d = n → jw_X mi_History_numberOfTree o k 0 0 2 [(0, .ref (zb o + 29)), (1, .int (iI n)), (2, .int (iI i))] [] (mm o σ) hs := by
    intro d
    induction d with
    | zero =>
      intro i hi
      refine jw_iload_n (pc' := 3) jd_History_numberOfTree_2 rfl rfl rfl ?_
      refine jw_iload_n (pc' := 4) jd_History_numberOfTree_3 rfl rfl rfl ?_
      refine zx_icmp_ge (tgt := 31) (pc' := 7) (by first | exact rg_iv _ _ _ | omega) (by first | exact rg_iv _ _ _ | omega) jd_History_numberOfTree_4 (by decide) rfl (fun q => ?_) (fun q => ?_)
      rotate_left
      · exfalso; omega
      refine jw_iload_n (pc' := 32) jd_History_numberOfTree_31 rfl rfl rfl ?_
      refine zx_iret hE jd_History_numberOfTree_32 rfl ?_
      exact ⟨⟨_, rfl⟩, rfl⟩
    | succ d ih =>
      intro i hi
      have e01 := eqT_01 (Ts i) (Ts n)
      have h1 := (h i (by omega)).1
      refine jw_iload_n (pc' := 3) jd_History_numberOfTree_2 rfl rfl rfl ?_
      refine jw_iload_n (pc' := 4) jd_History_numberOfTree_3 rfl rfl rfl ?_
      refine zx_icmp_ge (tgt := 31) (pc' := 7) (by first | exact rg_iv _ _ _ | omega) (by first | exact rg_iv _ _ _ | omega) jd_History_numberOfTree_4 (by decide) rfl (fun q => ?_) (fun q => ?_)
      · exfalso; omega
      refine jw_aload_n (pc' := 8) jd_History_numberOfTree_7 rfl rfl rfl ?_
      refine jw_iload_n (pc' := 9) jd_History_numberOfTree_8 rfl rfl rfl ?_
      refine zx_callV0 (pc' := 12) hR (h_treeOf i (by omega)) jm_History_treeOf jq_478 jc_History jd_History_numberOfTree_9 (mc_History _) rfl rfl (Nat.le_of_ble_eq_true rfl) (by omega) (by decide) rfl rfl ?_
      refine jw_aload_n (pc' := 13) jd_History_numberOfTree_12 rfl rfl rfl ?_
      refine jw_iload_n (pc' := 14) jd_History_numberOfTree_13 rfl rfl rfl ?_
      refine zx_callV0 (pc' := 17) hR (h_treeOf n (by omega)) jm_History_treeOf jq_478 jc_History jd_History_numberOfTree_14 (mc_History _) rfl rfl (Nat.le_of_ble_eq_true rfl) (by omega) (by decide) rfl rfl ?_
      rw [trA_i (show i < 30 by omega), trA_i hn]
      refine zx_callV0 (pc' := 20) hR (t_sameAs (h i (by omega)) (h n hn)) jm_Tree_sameAs jq_479 jc_Tree jd_History_numberOfTree_17 (mc_Tree _ (by assumption)) rfl rfl (Nat.le_of_ble_eq_true rfl) (by omega) (by decide) rfl rfl ?_
      refine zx_if_eq (tgt := 25) (pc' := 23) (by first | exact rg_iv _ _ _ | omega) jd_History_numberOfTree_20 (by decide) rfl (fun q2 => ?_) (fun q2 => ?_)
      · refine zx_iinc (pc' := 28) (lc' := [(0, _), (1, _), (2, _)]) jd_History_numberOfTree_25 rfl (Nat.le_of_ble_eq_true rfl) ⟨rfl, rfl, rfl, trivial⟩ rfl ?_
        refine jw_goto (tgt := 2) jd_History_numberOfTree_28 (by decide) ?_
        exact ih (i + 1) (by omega)
      · refine jw_iload_n (pc' := 24) jd_History_numberOfTree_23 rfl rfl rfl ?_
        refine zx_iret hE jd_History_numberOfTree_24 rfl ?_
        exact ⟨⟨_, rfl⟩, rfl⟩
  exact loop n 0 (by omega)
theorem h_numC (h : HT o σ Ts) (n p : Nat) (hn : n < 30) (hp : p < 12) : zSpec mi_History_numberOfContent 2 o [.ref (zb o + 29), .int (iI n), .int (iI p)] σ (fun v s => (∃ x, v = some (.int (iI x))) ∧ s = σ) := by
  have hT := h n hn
  have hT1 := hT.1
  have hC := hT.2 p hp
  have hC1 := hC.1
  have o1 := hC.2.1.p
  refine z_spec (by decide +kernel) (Nat.le_of_ble_eq_true rfl) rfl (fun k hs hR hE => ?_)
  refine jw_aload_n (pc' := 1) jd_History_numberOfContent_0 rfl rfl rfl ?_
  refine jw_iload_n (pc' := 2) jd_History_numberOfContent_1 rfl rfl rfl ?_
  refine zx_callV0 (pc' := 5) hR (h_treeOf n (by omega)) jm_History_treeOf jq_478 jc_History jd_History_numberOfContent_2 (mc_History _) rfl rfl (Nat.le_of_ble_eq_true rfl) (by omega) (by decide) rfl rfl ?_
  rw [trA_i hn]
  refine jw_iload_n (pc' := 6) jd_History_numberOfContent_5 rfl rfl rfl ?_
  refine zx_callV0 (pc' := 9) hR (t_fileAt hT1 p hp) jm_Tree_fileAt jq_484 jc_Tree jd_History_numberOfContent_6 (mc_Tree _ (by assumption)) rfl rfl (Nat.le_of_ble_eq_true rfl) (by omega) (by decide) rfl rfl ?_
  refine jw_astore_n (pc' := 10) (lc' := [(0, _), (1, _), (2, _), (3, _)]) jd_History_numberOfContent_9 rfl (Nat.le_of_ble_eq_true rfl) ⟨rfl, rfl, rfl, rfl, trivial⟩ rfl ?_
  refine jw_aload_n (pc' := 11) jd_History_numberOfContent_10 rfl rfl rfl ?_
  refine zx_callV0 (pc' := 14) hR (c_exists hC) jm_Content_exists jq_485 jc_Content jd_History_numberOfContent_11 (mc_Content _ (by assumption)) rfl rfl (Nat.le_of_ble_eq_true rfl) (by omega) (by decide) rfl rfl ?_
  refine zx_if_ne (tgt := 19) (pc' := 17) (by first | exact rg_iv _ _ _ | omega) jd_History_numberOfContent_14 (by decide) rfl (fun q => ?_) (fun q => ?_)
  rotate_left
  · refine zx_iconst (pc' := 18) (n := -1) jd_History_numberOfContent_17 rfl ?_
    refine zx_iret hE jd_History_numberOfContent_18 rfl ?_
    exact ⟨⟨_, rfl⟩, rfl⟩
  refine jw_iload_n (pc' := 20) jd_History_numberOfContent_19 rfl rfl rfl ?_
  refine zx_bipush (pc' := 22) (n := 12) jd_History_numberOfContent_20 (by decide +kernel) rfl ?_
  refine zx_imul (pc' := 23) jd_History_numberOfContent_22 rfl ?_
  refine jw_iload_n (pc' := 24) jd_History_numberOfContent_23 rfl rfl rfl ?_
  refine zx_iadd (pc' := 25) jd_History_numberOfContent_24 rfl ?_
  refine jw_istore (pc' := 27) (lc' := [(0, _), (3, _), (4, _)]) jd_History_numberOfContent_25 (Nat.le_of_ble_eq_true rfl) ⟨rfl, rfl, rfl, trivial⟩ rfl ?_
  refine zx_iconst (pc' := 28) (n := 0) jd_History_numberOfContent_27 rfl ?_
  refine jw_istore (pc' := 30) (lc' := [(0, _), (3, _), (4, _), (5, _)]) jd_History_numberOfContent_28 (Nat.le_of_ble_eq_true rfl) ⟨rfl, rfl, rfl, rfl, trivial⟩ rfl ?_
  have e0 : (n : Int) * 12 + p = ((n * 12 + p : Nat) : Int) := by omega
  rw [e0]
  have loop : ∀ (d i : Nat), i + d = n * 12 + p → jw_X mi_History_numberOfContent o k 0 0 30 [(0, .ref (zb o + 29)), (3, .ref (fA (tA o n) p)), (4, .int (iI ((n * 12 + p : Nat) : Int))), (5, .int (iI i))] [] (mm o σ) hs := by
    intro d
    induction d with
    | zero =>
      intro i hi
      refine jw_iload (pc' := 32) jd_History_numberOfContent_30 rfl rfl ?_
      refine jw_iload (pc' := 34) jd_History_numberOfContent_32 rfl rfl ?_
      refine zx_icmp_ge (tgt := 70) (pc' := 37) (by first | exact rg_iv _ _ _ | omega) (by first | exact rg_iv _ _ _ | omega) jd_History_numberOfContent_34 (by decide) rfl (fun q => ?_) (fun q => ?_)
      rotate_left
      · exfalso; omega
      refine jw_iload (pc' := 72) jd_History_numberOfContent_70 rfl rfl ?_
      refine zx_iret hE jd_History_numberOfContent_72 rfl ?_
      exact ⟨⟨_, rfl⟩, rfl⟩
    | succ d ih =>
      intro i hi
      have h2 := h (i / 12) (by omega)
      have h21 := h2.1
      have e01 := eqV_01 (Ts n p) (Ts (i / 12) (i % 12))
      refine jw_iload (pc' := 32) jd_History_numberOfContent_30 rfl rfl ?_
      refine jw_iload (pc' := 34) jd_History_numberOfContent_32 rfl rfl ?_
      refine zx_icmp_ge (tgt := 70) (pc' := 37) (by first | exact rg_iv _ _ _ | omega) (by first | exact rg_iv _ _ _ | omega) jd_History_numberOfContent_34 (by decide) rfl (fun q => ?_) (fun q => ?_)
      · exfalso; omega
      refine jw_aload_n (pc' := 38) jd_History_numberOfContent_37 rfl rfl rfl ?_
      refine jw_aload_n (pc' := 39) jd_History_numberOfContent_38 rfl rfl rfl ?_
      refine jw_iload (pc' := 41) jd_History_numberOfContent_39 rfl rfl ?_
      refine zx_bipush (pc' := 43) (n := 12) jd_History_numberOfContent_41 (by decide +kernel) rfl ?_
      refine zx_idiv (pc' := 44) jd_History_numberOfContent_43 (by omega) (by omega) rfl ?_
      rw [show (i : Int) / 12 = ((i / 12 : Nat) : Int) by omega]
      refine zx_callV0 (pc' := 47) hR (h_treeOf (i / 12 : Nat) (by omega)) jm_History_treeOf jq_478 jc_History jd_History_numberOfContent_44 (mc_History _) rfl rfl (Nat.le_of_ble_eq_true rfl) (by omega) (by decide) rfl rfl ?_
      rw [trA_i (show i / 12 < 30 by omega)]
      refine jw_iload (pc' := 49) jd_History_numberOfContent_47 rfl rfl ?_
      refine zx_bipush (pc' := 51) (n := 12) jd_History_numberOfContent_49 (by decide +kernel) rfl ?_
      refine zx_irem (pc' := 52) jd_History_numberOfContent_51 (by omega) (by omega) rfl ?_
      rw [show (i : Int) % 12 = ((i % 12 : Nat) : Int) by omega]
      refine zx_callV0 (pc' := 55) hR (t_fileAt h21 (i % 12) (by omega)) jm_Tree_fileAt jq_484 jc_Tree jd_History_numberOfContent_52 (mc_Tree _ (by assumption)) rfl rfl (Nat.le_of_ble_eq_true rfl) (by omega) (by decide) rfl rfl ?_
      refine zx_callV0 (pc' := 58) hR (c_sameAs hC (h2.2 (i % 12) (by omega))) jm_Content_sameAs jq_486 jc_Content jd_History_numberOfContent_55 (mc_Content _ (by assumption)) rfl rfl (Nat.le_of_ble_eq_true rfl) (by omega) (by decide) rfl rfl ?_
      refine zx_if_eq (tgt := 64) (pc' := 61) (by first | exact rg_iv _ _ _ | omega) jd_History_numberOfContent_58 (by decide) rfl (fun q2 => ?_) (fun q2 => ?_)
      · refine zx_iinc (pc' := 67) (lc' := [(0, _), (3, _), (4, _), (5, _)]) jd_History_numberOfContent_64 rfl (Nat.le_of_ble_eq_true rfl) ⟨rfl, rfl, rfl, rfl, trivial⟩ rfl ?_
        refine jw_goto (tgt := 30) jd_History_numberOfContent_67 (by decide) ?_
        exact ih (i + 1) (by omega)
      · refine jw_iload (pc' := 63) jd_History_numberOfContent_61 rfl rfl ?_
        refine zx_iret hE jd_History_numberOfContent_63 rfl ?_
        exact ⟨⟨_, rfl⟩, rfl⟩
  exact loop (n * 12 + p) 0 (by omega)
theorem TC.cells {s : zS} {t : Nat} {A : zT} (h : TC o σ t A) (f : ∀ x, t ≤ x → x < t + 28 → s x = σ x) : TC o s t A := ⟨h.1, fun p hp => (h.2 p hp).cell (f _ (by unfold fA; omega) (by unfold fA; omega)) (f _ (by unfold fA; omega) (by unfold fA; omega))⟩
/-- what a new commit changes: its tree, the numbers, how many, which are kept -/
def adF (o : jw_O) (σ s : zS) (n : Nat) : Prop := ∀ a, a ≠ zb o + 29 → (a < zb o + 59 ∨ zb o + 64 ≤ a) → (a < tA o n ∨ tA o n + 28 ≤ a) → s a = σ a
theorem h_add {f g t c : Nat → Int} {n kp u : Nat} {A : zT} {note x y : Int} (h : HC σ (zb o + 29) f g t c n kp) (hT : HT o σ Ts) (hA : TC o σ u A) (hu : u + 28 ≤ zb o + 29) (hn : n < 30) (hx : -2147483648 ≤ x ∧ x < 2147483648) (hy : -2147483648 ≤ y ∧ y < 2147483648) : zSpec mi_History_add 4 o [.ref (zb o + 29), .ref u, .int (iI note), .int (iI x), .int (iI y)] σ (fun v s => v = some (.int (iI n)) ∧ TC o s (tA o n) A ∧ (∃ t2 c2, HC s (zb o + 29) (fun i => if i = n then x else f i) (fun i => if i = n then y else g i) t2 c2 (n + 1) (kp ||| 2 ^ n)) ∧ adF o σ s n) := by
  obtain ⟨h1, h2, h3, h4, h5, h6, h7, h8⟩ := h
  have i1 := isT_i (o := o) hn
  have e30 := p30
  have htA : ∀ i, i < 30 → zb o + 65 ≤ tA o i ∧ tA o i + 28 ≤ zb o + 905 := fun i hi => by unfold tA; omega
  have ht := htA n hn
  have h2n : (2 : Nat) ^ n < 2 ^ 30 := Nat.pow_lt_pow_right (by decide) hn
  have hor : kp ||| 2 ^ n < 2 ^ 30 := Nat.or_lt_two_pow h8 h2n
  refine z_spec (by decide +kernel) (Nat.le_of_ble_eq_true rfl) rfl (fun k hs hR hE => ?_)
  refine jw_aload_n (pc' := 1) jd_History_add_0 rfl rfl rfl ?_
  refine zx_getI (pc' := 4) (kf := 8) jc_History (by decide) jq_97 jd_History_add_1 (mc_History _) rfl rfl ?_
  refine zx_bipush (pc' := 6) (n := 30) jd_History_add_4 (by decide +kernel) rfl ?_
  refine zx_icmp_lt (tgt := 11) (pc' := 9) (by first | exact rg_iv _ _ _ | omega) (by first | exact rg_iv _ _ _ | omega) jd_History_add_6 (by decide) rfl (fun q => ?_) (fun q => ?_)
  rotate_left
  · exfalso; omega
  refine jw_aload_n (pc' := 12) jd_History_add_11 rfl rfl rfl ?_
  refine zx_getI (pc' := 15) (kf := 8) jc_History (by decide) jq_97 jd_History_add_12 (mc_History _) rfl rfl ?_
  refine jw_istore (pc' := 17) (lc' := [(0, _), (1, _), (2, _), (3, _), (4, _), (5, _)]) jd_History_add_15 (Nat.le_of_ble_eq_true rfl) ⟨rfl, rfl, rfl, rfl, rfl, rfl, trivial⟩ rfl ?_
  rw [h5]
  refine jw_aload_n (pc' := 18) jd_History_add_17 rfl rfl rfl ?_
  refine jw_get (pc' := 21) (kf := 0) jc_History (by decide) jq_89 jd_History_add_18 (mc_History _) rfl rfl ?_
  refine jw_iload (pc' := 23) jd_History_add_21 rfl rfl ?_
  refine zx_trees (pc' := 24) jd_History_add_23 rfl (by omega) rfl ?_
  refine jw_aload_n (pc' := 25) jd_History_add_24 rfl rfl rfl ?_
  refine zx_callV (pc' := 28) hR (t_copyFrom i1 hA (by omega)) jm_Tree_copyFrom jq_469 jc_Tree jd_History_add_25 (mc_Tree _ (by assumption)) rfl rfl (Nat.le_of_ble_eq_true rfl) (by omega) (by decide) rfl (fun v9 s1 q9 => ?_)
  obtain ⟨rfl, g1, f1⟩ := q9
  refine jw_aload_n (pc' := 29) jd_History_add_28 rfl rfl rfl ?_
  refine jw_get (pc' := 32) (kf := 2) jc_History (by decide) jq_91 jd_History_add_29 (mc_History _) rfl rfl ?_
  refine jw_iload (pc' := 34) jd_History_add_32 rfl rfl ?_
  refine jw_iload_n (pc' := 35) jd_History_add_34 rfl rfl rfl ?_
  refine zx_iast (pc' := 36) jd_History_add_35 (ml_History_notes _) rfl (by omega) (Nat.le_of_ble_eq_true rfl) rfl ?_
  refine jw_aload_n (pc' := 37) jd_History_add_36 rfl rfl rfl ?_
  refine jw_get (pc' := 40) (kf := 3) jc_History (by decide) jq_92 jd_History_add_37 (mc_History _) rfl rfl ?_
  refine jw_iload (pc' := 42) jd_History_add_40 rfl rfl ?_
  refine jw_iload_n (pc' := 43) jd_History_add_42 rfl rfl rfl ?_
  refine zx_iast (pc' := 44) jd_History_add_43 (ml_History_firstParents _) rfl (by omega) (Nat.le_of_ble_eq_true rfl) rfl ?_
  refine jw_aload_n (pc' := 45) jd_History_add_44 rfl rfl rfl ?_
  refine jw_get (pc' := 48) (kf := 4) jc_History (by decide) jq_93 jd_History_add_45 (mc_History _) rfl rfl ?_
  refine jw_iload (pc' := 50) jd_History_add_48 rfl rfl ?_
  refine jw_iload (pc' := 52) jd_History_add_50 rfl rfl ?_
  refine zx_iast (pc' := 53) jd_History_add_52 (ml_History_secondParents _) rfl (by omega) (Nat.le_of_ble_eq_true rfl) rfl ?_
  refine jw_aload_n (pc' := 54) jd_History_add_53 rfl rfl rfl ?_
  refine jw_get (pc' := 57) (kf := 5) jc_History (by decide) jq_94 jd_History_add_54 (mc_History _) rfl rfl ?_
  refine jw_iload (pc' := 59) jd_History_add_57 rfl rfl ?_
  refine jw_aload_n (pc' := 60) jd_History_add_59 rfl rfl rfl ?_
  refine jw_iload (pc' := 62) jd_History_add_60 rfl rfl ?_
  refine jw_sub (lc' := [(0, _), (5, _)]) ⟨rfl, rfl, trivial⟩ ?_
  -- what stays from here on: trees, and what the loop needs
  have keep : ∀ s : zS, (∀ a, a ≠ zb o + 29 → (a < zb o + 59 ∨ zb o + 64 ≤ a) → (a < tA o n ∨ tA o n + 28 ≤ a) → s a = σ a) → (∀ a, tA o n ≤ a → a < tA o n + 28 → s a = s1 a) → ∃ T2, HT o s T2 := by
    intro s k1 k2
    refine ⟨fun i => if i = n then A else Ts i, fun i hi => ?_⟩
    by_cases e : i = n
    · dsimp only
      rw [if_pos e, e]
      exact g1.cells (fun x h1 h2 => k2 x h1 h2)
    · dsimp only
      rw [if_neg e]
      have hti := htA i hi
      refine (hT i hi).cells (fun x h1 h2 => k1 x (by omega) (by omega) ?_)
      unfold tA at *
      omega
  obtain ⟨s2, hs2⟩ : ∃ z, z = si (si (si s1 (zb o + 59) n note) (zb o + 60) n x) (zb o + 61) n y := ⟨_, rfl⟩
  rw [← hs2]
  have F2 : ∀ a, a ≠ zb o + 59 → a ≠ zb o + 60 → a ≠ zb o + 61 → s2 a = s1 a := fun a p1 p2 p3 => by rw [hs2, si_ne p3, si_ne p2, si_ne p1]
  have k2a : ∀ a, a ≠ zb o + 29 → (a < zb o + 59 ∨ zb o + 64 ≤ a) → (a < tA o n ∨ tA o n + 28 ≤ a) → s2 a = σ a := fun a p1 p2 p3 => by rw [F2 a (by omega) (by omega) (by omega)]; exact f1 a (by omega)
  have k2b : ∀ a, tA o n ≤ a → a < tA o n + 28 → s2 a = s1 a := fun a p1 p2 => F2 a (by omega) (by omega) (by omega)
  have x60 : ∀ i, i < 30 → iv s2 (zb o + 60) i = if i = n then x else f i := fun i hi => by
    rw [hs2, iv_cell (si_ne (by omega)), iv_si hx]
    by_cases e : i = n
    · rw [if_pos ⟨rfl, e⟩, if_pos e]
    · rw [if_neg (fun z => e z.2), if_neg e, iv_cell (si_ne (by omega)), iv_cell (f1 _ (by omega))]; exact h1 i hi
  have x61 : ∀ i, i < 30 → iv s2 (zb o + 61) i = if i = n then y else g i := fun i hi => by
    rw [hs2, iv_si hy]
    by_cases e : i = n
    · rw [if_pos ⟨rfl, e⟩, if_pos e]
    · rw [if_neg (fun z => e z.2), if_neg e, iv_cell (si_ne (by omega)), iv_cell (si_ne (by omega)), iv_cell (f1 _ (by omega))]; exact h2 i hi
  have x8 : iv s2 (zb o + 29) 8 = n := by rw [iv_cell (F2 _ (by omega) (by omega) (by omega)), iv_cell (f1 _ (by omega))]; exact h5
  have x9 : iv s2 (zb o + 29) 9 = kp := by rw [iv_cell (F2 _ (by omega) (by omega) (by omega)), iv_cell (f1 _ (by omega))]; exact h6
  obtain ⟨T2, hT2⟩ := keep s2 k2a k2b
  refine zx_callV (pc' := 65) hR (h_numT hT2 n hn) jm_History_numberOfTree jq_474 jc_History jd_History_add_62 (mc_History _) rfl rfl (Nat.le_of_ble_eq_true rfl) (by omega) (by decide) rfl (fun v9 s3 q9 => ?_)
  obtain ⟨⟨w, rfl⟩, e3⟩ := q9
  rw [e3]
  refine zx_iast (pc' := 66) jd_History_add_65 (ml_History_treeNumbers _) rfl (by omega) (Nat.le_of_ble_eq_true rfl) rfl ?_
  refine zx_iconst (pc' := 67) (n := 0) jd_History_add_66 rfl ?_
  refine jw_istore (pc' := 69) (lc' := [(0, _), (5, _), (6, _)]) jd_History_add_67 (Nat.le_of_ble_eq_true rfl) ⟨rfl, rfl, rfl, trivial⟩ rfl ?_
  have loop : ∀ (d i : Nat) (s : zS), i + d = 12 → (∀ a, a ≠ zb o + 62 → a ≠ zb o + 63 → s a = s2 a) → jw_X mi_History_add o k 0 0 69 [(0, .ref (zb o + 29)), (5, .int (iI n)), (6, .int (iI i))] [] (mm o s) hs := by
    intro d
    induction d with
    | zero =>
      intro i s hi hF
      refine jw_iload (pc' := 71) jd_History_add_69 rfl rfl ?_
      refine zx_bipush (pc' := 73) (n := 12) jd_History_add_71 (by decide +kernel) rfl ?_
      refine zx_icmp_ge (tgt := 103) (pc' := 76) (by first | exact rg_iv _ _ _ | omega) (by first | exact rg_iv _ _ _ | omega) jd_History_add_73 (by decide) rfl (fun q2 => ?_) (fun q2 => ?_)
      rotate_left
      · exfalso; omega
      refine jw_aload_n (pc' := 104) jd_History_add_103 rfl rfl rfl ?_
      refine jw_dup (pc' := 105) jd_History_add_104 rfl rfl ?_
      refine zx_getI (pc' := 108) (kf := 9) jc_History (by decide) jq_98 jd_History_add_105 (mc_History _) rfl rfl ?_
      refine jw_sub (lc' := [(0, _), (5, _)]) ⟨rfl, rfl, trivial⟩ ?_
      rw [show iv s (zb o + 29) 9 = kp from (iv_cell (hF _ (by omega) (by omega)) _).trans x9]
      refine jw_iload (pc' := 110) jd_History_add_108 rfl rfl ?_
      refine zx_callS0 (pc' := 113) hR (h_setOf n (by omega)) jm_History_setOf jq_487 jd_History_add_110 rfl rfl (Nat.le_of_ble_eq_true rfl) (by omega) (by decide) rfl rfl ?_
      rw [bS_i hn]
      refine zx_ior (pc' := 114) jd_History_add_113 rfl ?_
      refine zx_putI (pc' := 117) (kf := 9) jc_History (by decide) jq_98 jd_History_add_114 rfl (by decide +kernel) (mc_History _) rfl rfl ?_
      refine jw_aload_n (pc' := 118) jd_History_add_117 rfl rfl rfl ?_
      refine jw_dup (pc' := 119) jd_History_add_118 rfl rfl ?_
      refine zx_getI (pc' := 122) (kf := 8) jc_History (by decide) jq_97 jd_History_add_119 (mc_History _) rfl rfl ?_
      refine zx_iconst (pc' := 123) (n := 1) jd_History_add_122 rfl ?_
      refine zx_iadd (pc' := 124) jd_History_add_123 rfl ?_
      refine zx_putI (pc' := 127) (kf := 8) jc_History (by decide) jq_97 jd_History_add_124 rfl (by decide +kernel) (mc_History _) rfl rfl ?_
      refine jw_iload (pc' := 129) jd_History_add_127 rfl rfl ?_
      refine zx_iret hE jd_History_add_129 rfl ?_
      have y8 : iv (si s (zb o + 29) 9 ((kp ||| 2 ^ n : Nat) : Int)) (zb o + 29) 8 = n := by rw [iv_si (by omega), if_neg (by omega), iv_cell (hF _ (by omega) (by omega))]; exact x8
      rw [y8]
      have G : ∀ a, a ≠ zb o + 29 → si (si s (zb o + 29) 9 ((kp ||| 2 ^ n : Nat) : Int)) (zb o + 29) 8 (n + 1) a = s a := fun a p => by rw [si_ne p, si_ne p]
      refine ⟨rfl, g1.cells (fun a p1 p2 => ?_), ⟨fun i => iv s (zb o + 62) i, fun i => iv s (zb o + 63) i, fun i hi => ?_, fun i hi => ?_, fun i hi => ?_, fun i hi => ?_, ?_, ?_, by omega, hor⟩, fun a p1 p2 p3 => ?_⟩
      · rw [G a (by omega), hF a (by omega) (by omega)]; exact k2b a p1 p2
      · rw [iv_cell (G _ (by omega)), iv_cell (hF _ (by omega) (by omega))]; exact x60 i hi
      · rw [iv_cell (G _ (by omega)), iv_cell (hF _ (by omega) (by omega))]; exact x61 i hi
      · rw [iv_cell (G _ (by omega))]
      · rw [iv_cell (G _ (by omega))]
      · rw [iv_si (by omega), if_pos ⟨rfl, rfl⟩]; omega
      · rw [iv_si (by omega), if_neg (by omega), iv_si (by omega), if_pos ⟨rfl, rfl⟩]
      · rw [G a p1, hF a (by omega) (by omega)]; exact k2a a p1 p2 p3
    | succ d ih =>
      intro i s hi hF
      obtain ⟨T3, hT3⟩ := keep s (fun a p1 p2 p3 => by rw [hF a (by omega) (by omega)]; exact k2a a p1 p2 p3) (fun a p1 p2 => by rw [hF a (by omega) (by omega)]; exact k2b a p1 p2)
      refine jw_iload (pc' := 71) jd_History_add_69 rfl rfl ?_
      refine zx_bipush (pc' := 73) (n := 12) jd_History_add_71 (by decide +kernel) rfl ?_
      refine zx_icmp_ge (tgt := 103) (pc' := 76) (by first | exact rg_iv _ _ _ | omega) (by first | exact rg_iv _ _ _ | omega) jd_History_add_73 (by decide) rfl (fun q2 => ?_) (fun q2 => ?_)
      · exfalso; omega
      refine jw_aload_n (pc' := 77) jd_History_add_76 rfl rfl rfl ?_
      refine jw_get (pc' := 80) (kf := 6) jc_History (by decide) jq_95 jd_History_add_77 (mc_History _) rfl rfl ?_
      refine jw_iload (pc' := 82) jd_History_add_80 rfl rfl ?_
      refine zx_bipush (pc' := 84) (n := 12) jd_History_add_82 (by decide +kernel) rfl ?_
      refine zx_imul (pc' := 85) jd_History_add_84 rfl ?_
      refine jw_iload (pc' := 87) jd_History_add_85 rfl rfl ?_
      refine zx_iadd (pc' := 88) jd_History_add_87 rfl ?_
      refine jw_aload_n (pc' := 89) jd_History_add_88 rfl rfl rfl ?_
      refine jw_iload (pc' := 91) jd_History_add_89 rfl rfl ?_
      refine jw_iload (pc' := 93) jd_History_add_91 rfl rfl ?_
      refine zx_callV (pc' := 96) hR (h_numC hT3 n i hn (by omega)) jm_History_numberOfContent jq_480 jc_History jd_History_add_93 (mc_History _) rfl rfl (Nat.le_of_ble_eq_true rfl) (by omega) (by decide) rfl (fun v9 s4 q9 => ?_)
      obtain ⟨⟨w2, rfl⟩, rfl⟩ := q9
      refine zx_iast (pc' := 97) (j := n * 12 + i) jd_History_add_96 (ml_History_contentNumbers _) (by omega) (by omega) (Nat.le_of_ble_eq_true rfl) rfl ?_
      refine zx_iinc (pc' := 100) (lc' := [(0, _), (5, _), (6, _)]) jd_History_add_97 rfl (Nat.le_of_ble_eq_true rfl) ⟨rfl, rfl, rfl, trivial⟩ rfl ?_
      refine jw_goto (tgt := 69) jd_History_add_100 (by decide) ?_
      exact ih (i + 1) _ (by omega) (fun a p1 p2 => by rw [si_ne p2]; exact hF a p1 p2)
  exact loop 12 0 _ (by omega) (fun a p1 p2 => si_ne p1)
end
