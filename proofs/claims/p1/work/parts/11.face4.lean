theorem jd_Branchwork_digest_0 : decode mi_Branchwork_digest.2.1 0 = .ok (.ldc2_w 301, 3) := by decide +kernel
theorem jd_Branchwork_digest_3 : decode mi_Branchwork_digest.2.1 3 = .ok (.lstore_n 1, 1) := by decide +kernel
theorem jd_Branchwork_digest_4 : decode mi_Branchwork_digest.2.1 4 = .ok (.iconst 0, 1) := by decide +kernel
theorem jd_Branchwork_digest_5 : decode mi_Branchwork_digest.2.1 5 = .ok (.istore_n 3, 1) := by decide +kernel
theorem jd_Branchwork_digest_6 : decode mi_Branchwork_digest.2.1 6 = .ok (.iload_n 3, 1) := by decide +kernel
theorem jd_Branchwork_digest_7 : decode mi_Branchwork_digest.2.1 7 = .ok (.iconst 5, 1) := by decide +kernel
theorem jd_Branchwork_digest_8 : decode mi_Branchwork_digest.2.1 8 = .ok (.if_icmp .gt 19, 3) := by decide +kernel
theorem jd_Branchwork_digest_11 : decode mi_Branchwork_digest.2.1 11 = .ok (.lload_n 1, 1) := by decide +kernel
theorem jd_Branchwork_digest_12 : decode mi_Branchwork_digest.2.1 12 = .ok (.aload_n 0, 1) := by decide +kernel
theorem jd_Branchwork_digest_13 : decode mi_Branchwork_digest.2.1 13 = .ok (.iload_n 3, 1) := by decide +kernel
theorem jd_Branchwork_digest_14 : decode mi_Branchwork_digest.2.1 14 = .ok (.invokevirtual 303, 3) := by decide +kernel
theorem jd_Branchwork_digest_17 : decode mi_Branchwork_digest.2.1 17 = .ok (.invokestatic 306, 3) := by decide +kernel
theorem jd_Branchwork_digest_20 : decode mi_Branchwork_digest.2.1 20 = .ok (.lstore_n 1, 1) := by decide +kernel
theorem jd_Branchwork_digest_21 : decode mi_Branchwork_digest.2.1 21 = .ok (.iinc 3 1, 3) := by decide +kernel
theorem jd_Branchwork_digest_24 : decode mi_Branchwork_digest.2.1 24 = .ok (.goto (-18), 3) := by decide +kernel
theorem jd_Branchwork_digest_27 : decode mi_Branchwork_digest.2.1 27 = .ok (.iconst 0, 1) := by decide +kernel
theorem jd_Branchwork_digest_28 : decode mi_Branchwork_digest.2.1 28 = .ok (.istore_n 3, 1) := by decide +kernel
theorem jd_Branchwork_digest_29 : decode mi_Branchwork_digest.2.1 29 = .ok (.iload_n 3, 1) := by decide +kernel
theorem jd_Branchwork_digest_30 : decode mi_Branchwork_digest.2.1 30 = .ok (.iconst 2, 1) := by decide +kernel
theorem jd_Branchwork_digest_31 : decode mi_Branchwork_digest.2.1 31 = .ok (.if_icmp .gt 19, 3) := by decide +kernel
theorem jd_Branchwork_digest_34 : decode mi_Branchwork_digest.2.1 34 = .ok (.lload_n 1, 1) := by decide +kernel
theorem jd_Branchwork_digest_35 : decode mi_Branchwork_digest.2.1 35 = .ok (.aload_n 0, 1) := by decide +kernel
theorem jd_Branchwork_digest_36 : decode mi_Branchwork_digest.2.1 36 = .ok (.iload_n 3, 1) := by decide +kernel
theorem jd_Branchwork_digest_37 : decode mi_Branchwork_digest.2.1 37 = .ok (.invokevirtual 310, 3) := by decide +kernel
theorem jd_Branchwork_digest_40 : decode mi_Branchwork_digest.2.1 40 = .ok (.invokestatic 306, 3) := by decide +kernel
theorem jd_Branchwork_digest_43 : decode mi_Branchwork_digest.2.1 43 = .ok (.lstore_n 1, 1) := by decide +kernel
theorem jd_Branchwork_digest_44 : decode mi_Branchwork_digest.2.1 44 = .ok (.iinc 3 1, 3) := by decide +kernel
theorem jd_Branchwork_digest_47 : decode mi_Branchwork_digest.2.1 47 = .ok (.goto (-18), 3) := by decide +kernel
theorem jd_Branchwork_digest_50 : decode mi_Branchwork_digest.2.1 50 = .ok (.iconst 0, 1) := by decide +kernel
theorem jd_Branchwork_digest_51 : decode mi_Branchwork_digest.2.1 51 = .ok (.istore_n 3, 1) := by decide +kernel
theorem jd_Branchwork_digest_52 : decode mi_Branchwork_digest.2.1 52 = .ok (.iload_n 3, 1) := by decide +kernel
theorem jd_Branchwork_digest_53 : decode mi_Branchwork_digest.2.1 53 = .ok (.aload_n 0, 1) := by decide +kernel
theorem jd_Branchwork_digest_54 : decode mi_Branchwork_digest.2.1 54 = .ok (.getfield 55, 3) := by decide +kernel
theorem jd_Branchwork_digest_57 : decode mi_Branchwork_digest.2.1 57 = .ok (.if_icmp .ge 19, 3) := by decide +kernel
theorem jd_Branchwork_digest_60 : decode mi_Branchwork_digest.2.1 60 = .ok (.lload_n 1, 1) := by decide +kernel
theorem jd_Branchwork_digest_61 : decode mi_Branchwork_digest.2.1 61 = .ok (.aload_n 0, 1) := by decide +kernel
theorem jd_Branchwork_digest_62 : decode mi_Branchwork_digest.2.1 62 = .ok (.iload_n 3, 1) := by decide +kernel
theorem jd_Branchwork_digest_63 : decode mi_Branchwork_digest.2.1 63 = .ok (.invokevirtual 313, 3) := by decide +kernel
theorem jd_Branchwork_digest_66 : decode mi_Branchwork_digest.2.1 66 = .ok (.invokestatic 306, 3) := by decide +kernel
theorem jd_Branchwork_digest_69 : decode mi_Branchwork_digest.2.1 69 = .ok (.lstore_n 1, 1) := by decide +kernel
theorem jd_Branchwork_digest_70 : decode mi_Branchwork_digest.2.1 70 = .ok (.iinc 3 1, 3) := by decide +kernel
theorem jd_Branchwork_digest_73 : decode mi_Branchwork_digest.2.1 73 = .ok (.goto (-21), 3) := by decide +kernel
theorem jd_Branchwork_digest_76 : decode mi_Branchwork_digest.2.1 76 = .ok (.iconst 0, 1) := by decide +kernel
theorem jd_Branchwork_digest_77 : decode mi_Branchwork_digest.2.1 77 = .ok (.istore_n 3, 1) := by decide +kernel
theorem jd_Branchwork_digest_78 : decode mi_Branchwork_digest.2.1 78 = .ok (.iload_n 3, 1) := by decide +kernel
theorem jd_Branchwork_digest_79 : decode mi_Branchwork_digest.2.1 79 = .ok (.bipush 12, 2) := by decide +kernel
theorem jd_Branchwork_digest_81 : decode mi_Branchwork_digest.2.1 81 = .ok (.if_icmp .ge 19, 3) := by decide +kernel
theorem jd_Branchwork_digest_84 : decode mi_Branchwork_digest.2.1 84 = .ok (.lload_n 1, 1) := by decide +kernel
theorem jd_Branchwork_digest_85 : decode mi_Branchwork_digest.2.1 85 = .ok (.aload_n 0, 1) := by decide +kernel
theorem jd_Branchwork_digest_86 : decode mi_Branchwork_digest.2.1 86 = .ok (.iload_n 3, 1) := by decide +kernel
theorem jd_Branchwork_digest_87 : decode mi_Branchwork_digest.2.1 87 = .ok (.invokevirtual 316, 3) := by decide +kernel
theorem jd_Branchwork_digest_90 : decode mi_Branchwork_digest.2.1 90 = .ok (.invokestatic 306, 3) := by decide +kernel
theorem jd_Branchwork_digest_93 : decode mi_Branchwork_digest.2.1 93 = .ok (.lstore_n 1, 1) := by decide +kernel
theorem jd_Branchwork_digest_94 : decode mi_Branchwork_digest.2.1 94 = .ok (.iinc 3 1, 3) := by decide +kernel
theorem jd_Branchwork_digest_97 : decode mi_Branchwork_digest.2.1 97 = .ok (.goto (-19), 3) := by decide +kernel
theorem jd_Branchwork_digest_100 : decode mi_Branchwork_digest.2.1 100 = .ok (.lload_n 1, 1) := by decide +kernel
theorem jd_Branchwork_digest_101 : decode mi_Branchwork_digest.2.1 101 = .ok (.aload_n 0, 1) := by decide +kernel
theorem jd_Branchwork_digest_102 : decode mi_Branchwork_digest.2.1 102 = .ok (.getfield 12, 3) := by decide +kernel
theorem jd_Branchwork_digest_105 : decode mi_Branchwork_digest.2.1 105 = .ok (.invokestatic 319, 3) := by decide +kernel
theorem jd_Branchwork_digest_108 : decode mi_Branchwork_digest.2.1 108 = .ok (.lstore_n 1, 1) := by decide +kernel
theorem jd_Branchwork_digest_109 : decode mi_Branchwork_digest.2.1 109 = .ok (.iconst 0, 1) := by decide +kernel
theorem jd_Branchwork_digest_110 : decode mi_Branchwork_digest.2.1 110 = .ok (.istore_n 3, 1) := by decide +kernel
theorem jd_Branchwork_digest_111 : decode mi_Branchwork_digest.2.1 111 = .ok (.iload_n 3, 1) := by decide +kernel
theorem jd_Branchwork_digest_112 : decode mi_Branchwork_digest.2.1 112 = .ok (.bipush 30, 2) := by decide +kernel
theorem jd_Branchwork_digest_114 : decode mi_Branchwork_digest.2.1 114 = .ok (.if_icmp .ge 27, 3) := by decide +kernel
theorem jd_Branchwork_digest_117 : decode mi_Branchwork_digest.2.1 117 = .ok (.aload_n 0, 1) := by decide +kernel
theorem jd_Branchwork_digest_118 : decode mi_Branchwork_digest.2.1 118 = .ok (.getfield 19, 3) := by decide +kernel
theorem jd_Branchwork_digest_121 : decode mi_Branchwork_digest.2.1 121 = .ok (.iload_n 3, 1) := by decide +kernel
theorem jd_Branchwork_digest_122 : decode mi_Branchwork_digest.2.1 122 = .ok (.invokevirtual 323, 3) := by decide +kernel
theorem jd_Branchwork_digest_125 : decode mi_Branchwork_digest.2.1 125 = .ok (.ifCond .eq 10, 3) := by decide +kernel
theorem jd_Branchwork_digest_128 : decode mi_Branchwork_digest.2.1 128 = .ok (.aload_n 0, 1) := by decide +kernel
theorem jd_Branchwork_digest_129 : decode mi_Branchwork_digest.2.1 129 = .ok (.lload_n 1, 1) := by decide +kernel
theorem jd_Branchwork_digest_130 : decode mi_Branchwork_digest.2.1 130 = .ok (.iload_n 3, 1) := by decide +kernel
theorem jd_Branchwork_digest_131 : decode mi_Branchwork_digest.2.1 131 = .ok (.invokevirtual 326, 3) := by decide +kernel
theorem jd_Branchwork_digest_134 : decode mi_Branchwork_digest.2.1 134 = .ok (.lstore_n 1, 1) := by decide +kernel
theorem jd_Branchwork_digest_135 : decode mi_Branchwork_digest.2.1 135 = .ok (.iinc 3 1, 3) := by decide +kernel
theorem jd_Branchwork_digest_138 : decode mi_Branchwork_digest.2.1 138 = .ok (.goto (-27), 3) := by decide +kernel
theorem jd_Branchwork_digest_141 : decode mi_Branchwork_digest.2.1 141 = .ok (.iconst 0, 1) := by decide +kernel
theorem jd_Branchwork_digest_142 : decode mi_Branchwork_digest.2.1 142 = .ok (.istore_n 3, 1) := by decide +kernel
theorem jd_Branchwork_digest_143 : decode mi_Branchwork_digest.2.1 143 = .ok (.iload_n 3, 1) := by decide +kernel
theorem jd_Branchwork_digest_144 : decode mi_Branchwork_digest.2.1 144 = .ok (.aload_n 0, 1) := by decide +kernel
theorem jd_Branchwork_digest_145 : decode mi_Branchwork_digest.2.1 145 = .ok (.getfield 33, 3) := by decide +kernel
theorem jd_Branchwork_digest_148 : decode mi_Branchwork_digest.2.1 148 = .ok (.invokevirtual 153, 3) := by decide +kernel
theorem jd_Branchwork_digest_151 : decode mi_Branchwork_digest.2.1 151 = .ok (.if_icmp .ge 33, 3) := by decide +kernel
theorem jd_Branchwork_digest_154 : decode mi_Branchwork_digest.2.1 154 = .ok (.lload_n 1, 1) := by decide +kernel
theorem jd_Branchwork_digest_155 : decode mi_Branchwork_digest.2.1 155 = .ok (.aload_n 0, 1) := by decide +kernel
theorem jd_Branchwork_digest_156 : decode mi_Branchwork_digest.2.1 156 = .ok (.getfield 33, 3) := by decide +kernel
theorem jd_Branchwork_digest_159 : decode mi_Branchwork_digest.2.1 159 = .ok (.iload_n 3, 1) := by decide +kernel
theorem jd_Branchwork_digest_160 : decode mi_Branchwork_digest.2.1 160 = .ok (.invokevirtual 265, 3) := by decide +kernel
theorem jd_Branchwork_digest_163 : decode mi_Branchwork_digest.2.1 163 = .ok (.invokestatic 306, 3) := by decide +kernel
theorem jd_Branchwork_digest_166 : decode mi_Branchwork_digest.2.1 166 = .ok (.aload_n 0, 1) := by decide +kernel
theorem jd_Branchwork_digest_167 : decode mi_Branchwork_digest.2.1 167 = .ok (.getfield 33, 3) := by decide +kernel
theorem jd_Branchwork_digest_170 : decode mi_Branchwork_digest.2.1 170 = .ok (.iload_n 3, 1) := by decide +kernel
theorem jd_Branchwork_digest_171 : decode mi_Branchwork_digest.2.1 171 = .ok (.invokevirtual 268, 3) := by decide +kernel
theorem jd_Branchwork_digest_174 : decode mi_Branchwork_digest.2.1 174 = .ok (.invokestatic 306, 3) := by decide +kernel
theorem jd_Branchwork_digest_177 : decode mi_Branchwork_digest.2.1 177 = .ok (.lstore_n 1, 1) := by decide +kernel
theorem jd_Branchwork_digest_178 : decode mi_Branchwork_digest.2.1 178 = .ok (.iinc 3 1, 3) := by decide +kernel
theorem jd_Branchwork_digest_181 : decode mi_Branchwork_digest.2.1 181 = .ok (.goto (-38), 3) := by decide +kernel
theorem jd_Branchwork_digest_184 : decode mi_Branchwork_digest.2.1 184 = .ok (.lload_n 1, 1) := by decide +kernel
theorem jd_Branchwork_digest_185 : decode mi_Branchwork_digest.2.1 185 = .ok (.aload_n 0, 1) := by decide +kernel
theorem jd_Branchwork_digest_186 : decode mi_Branchwork_digest.2.1 186 = .ok (.invokevirtual 211, 3) := by decide +kernel
theorem jd_Branchwork_digest_189 : decode mi_Branchwork_digest.2.1 189 = .ok (.invokestatic 306, 3) := by decide +kernel
theorem jd_Branchwork_digest_192 : decode mi_Branchwork_digest.2.1 192 = .ok (.lreturn, 1) := by decide +kernel
theorem jd_Branchwork_foldTree_0 : decode mi_Branchwork_foldTree.2.1 0 = .ok (.lload_n 0, 1) := by decide +kernel
theorem jd_Branchwork_foldTree_1 : decode mi_Branchwork_foldTree.2.1 1 = .ok (.lstore_n 3, 1) := by decide +kernel
theorem jd_Branchwork_foldTree_2 : decode mi_Branchwork_foldTree.2.1 2 = .ok (.iconst 0, 1) := by decide +kernel
theorem jd_Branchwork_foldTree_3 : decode mi_Branchwork_foldTree.2.1 3 = .ok (.istore 5, 2) := by decide +kernel
theorem jd_Branchwork_foldTree_5 : decode mi_Branchwork_foldTree.2.1 5 = .ok (.iload 5, 2) := by decide +kernel
theorem jd_Branchwork_foldTree_7 : decode mi_Branchwork_foldTree.2.1 7 = .ok (.bipush 12, 2) := by decide +kernel
theorem jd_Branchwork_foldTree_9 : decode mi_Branchwork_foldTree.2.1 9 = .ok (.if_icmp .ge 70, 3) := by decide +kernel
theorem jd_Branchwork_foldTree_12 : decode mi_Branchwork_foldTree.2.1 12 = .ok (.aload_n 2, 1) := by decide +kernel
theorem jd_Branchwork_foldTree_13 : decode mi_Branchwork_foldTree.2.1 13 = .ok (.iload 5, 2) := by decide +kernel
theorem jd_Branchwork_foldTree_15 : decode mi_Branchwork_foldTree.2.1 15 = .ok (.invokevirtual 75, 3) := by decide +kernel
theorem jd_Branchwork_foldTree_18 : decode mi_Branchwork_foldTree.2.1 18 = .ok (.astore 6, 2) := by decide +kernel
theorem jd_Branchwork_foldTree_20 : decode mi_Branchwork_foldTree.2.1 20 = .ok (.lload_n 3, 1) := by decide +kernel
theorem jd_Branchwork_foldTree_21 : decode mi_Branchwork_foldTree.2.1 21 = .ok (.aload 6, 2) := by decide +kernel
theorem jd_Branchwork_foldTree_23 : decode mi_Branchwork_foldTree.2.1 23 = .ok (.invokevirtual 259, 3) := by decide +kernel
theorem jd_Branchwork_foldTree_26 : decode mi_Branchwork_foldTree.2.1 26 = .ok (.ifCond .eq 11, 3) := by decide +kernel
theorem jd_Branchwork_foldTree_29 : decode mi_Branchwork_foldTree.2.1 29 = .ok (.aload 6, 2) := by decide +kernel
theorem jd_Branchwork_foldTree_31 : decode mi_Branchwork_foldTree.2.1 31 = .ok (.invokevirtual 79, 3) := by decide +kernel
theorem jd_Branchwork_foldTree_34 : decode mi_Branchwork_foldTree.2.1 34 = .ok (.goto 4, 3) := by decide +kernel
theorem jd_Branchwork_foldTree_37 : decode mi_Branchwork_foldTree.2.1 37 = .ok (.iconst (-1), 1) := by decide +kernel
theorem jd_Branchwork_foldTree_38 : decode mi_Branchwork_foldTree.2.1 38 = .ok (.invokestatic 306, 3) := by decide +kernel
theorem jd_Branchwork_foldTree_41 : decode mi_Branchwork_foldTree.2.1 41 = .ok (.lstore_n 3, 1) := by decide +kernel
theorem jd_Branchwork_foldTree_42 : decode mi_Branchwork_foldTree.2.1 42 = .ok (.iconst 0, 1) := by decide +kernel
theorem jd_Branchwork_foldTree_43 : decode mi_Branchwork_foldTree.2.1 43 = .ok (.istore 7, 2) := by decide +kernel
theorem jd_Branchwork_foldTree_45 : decode mi_Branchwork_foldTree.2.1 45 = .ok (.iload 7, 2) := by decide +kernel
theorem jd_Branchwork_foldTree_47 : decode mi_Branchwork_foldTree.2.1 47 = .ok (.aload 6, 2) := by decide +kernel
theorem jd_Branchwork_foldTree_49 : decode mi_Branchwork_foldTree.2.1 49 = .ok (.invokevirtual 79, 3) := by decide +kernel
theorem jd_Branchwork_foldTree_52 : decode mi_Branchwork_foldTree.2.1 52 = .ok (.if_icmp .ge 21, 3) := by decide +kernel
theorem jd_Branchwork_foldTree_55 : decode mi_Branchwork_foldTree.2.1 55 = .ok (.lload_n 3, 1) := by decide +kernel
theorem jd_Branchwork_foldTree_56 : decode mi_Branchwork_foldTree.2.1 56 = .ok (.aload 6, 2) := by decide +kernel
theorem jd_Branchwork_foldTree_58 : decode mi_Branchwork_foldTree.2.1 58 = .ok (.iload 7, 2) := by decide +kernel
theorem jd_Branchwork_foldTree_60 : decode mi_Branchwork_foldTree.2.1 60 = .ok (.invokevirtual 262, 3) := by decide +kernel
theorem jd_Branchwork_foldTree_63 : decode mi_Branchwork_foldTree.2.1 63 = .ok (.invokestatic 306, 3) := by decide +kernel
theorem jd_Branchwork_foldTree_66 : decode mi_Branchwork_foldTree.2.1 66 = .ok (.lstore_n 3, 1) := by decide +kernel
theorem jd_Branchwork_foldTree_67 : decode mi_Branchwork_foldTree.2.1 67 = .ok (.iinc 7 1, 3) := by decide +kernel
theorem jd_Branchwork_foldTree_70 : decode mi_Branchwork_foldTree.2.1 70 = .ok (.goto (-25), 3) := by decide +kernel
theorem jd_Branchwork_foldTree_73 : decode mi_Branchwork_foldTree.2.1 73 = .ok (.iinc 5 1, 3) := by decide +kernel
theorem jd_Branchwork_foldTree_76 : decode mi_Branchwork_foldTree.2.1 76 = .ok (.goto (-71), 3) := by decide +kernel
theorem jd_Branchwork_foldTree_79 : decode mi_Branchwork_foldTree.2.1 79 = .ok (.lload_n 3, 1) := by decide +kernel
theorem jd_Branchwork_foldTree_80 : decode mi_Branchwork_foldTree.2.1 80 = .ok (.lreturn, 1) := by decide +kernel
theorem jd_Branchwork_fold_0 : decode mi_Branchwork_fold.2.1 0 = .ok (.lload_n 0, 1) := by decide +kernel
theorem jd_Branchwork_fold_1 : decode mi_Branchwork_fold.2.1 1 = .ok (.ldc2_w 329, 3) := by decide +kernel
theorem jd_Branchwork_fold_4 : decode mi_Branchwork_fold.2.1 4 = .ok (.lmul, 1) := by decide +kernel
theorem jd_Branchwork_fold_5 : decode mi_Branchwork_fold.2.1 5 = .ok (.iload_n 2, 1) := by decide +kernel
theorem jd_Branchwork_fold_6 : decode mi_Branchwork_fold.2.1 6 = .ok (.i2l, 1) := by decide +kernel
theorem jd_Branchwork_fold_7 : decode mi_Branchwork_fold.2.1 7 = .ok (.ladd, 1) := by decide +kernel
theorem jd_Branchwork_fold_8 : decode mi_Branchwork_fold.2.1 8 = .ok (.lreturn, 1) := by decide +kernel
section
variable {o : jw_O} {μ : jw_Mem} {hs b : Nat}
theorem jw_imp {mi : jw_M} {As : List Value} {d mc ms : Nat} {Φ Φ' : Option Value → jw_Mem → Nat → Prop} {Ψ Ψ' : String → jw_Mem → Nat → Prop} (h : jw_SpX mi d mc ms o As μ hs Φ Ψ) (h1 : ∀ v μ' s', Φ v μ' s' → Φ' v μ' s') (h2 : ∀ E μ' s', Ψ E μ' s' → Ψ' E μ' s') : jw_SpX mi d mc ms o As μ hs Φ' Ψ' := by
  intro p e ha hc hk s m args below hf happ hP hK
  obtain ⟨t, out, a1, a2, a3, a4⟩ := h p e ha hc hk s m args below hf happ hP hK
  refine ⟨t, out, a1, a2, a3, ?_⟩
  rcases a4 with ⟨⟨⟨v, μ', q1, q2, q3⟩, q4⟩, q5⟩ | ⟨q, q1, E, ce, L, ⟨⟨μ', q2, q3⟩, q4⟩, q5⟩
  · exact Or.inl ⟨⟨⟨v, μ', q1, q2, h1 _ _ _ q3⟩, q4⟩, q5⟩
  · exact Or.inr ⟨q, q1, E, ce, L, ⟨⟨μ', q2, h2 _ _ _ q3⟩, q4⟩, q5⟩
theorem jw_noX {mi : jw_M} {As : List Value} {d mc ms : Nat} {Φ : Option Value → jw_Mem → Nat → Prop} {Ψ : String → jw_Mem → Nat → Prop} (h : jw_SpX mi d mc ms o As μ hs Φ Ψ) (h2 : ∀ E μ' s', ¬ Ψ E μ' s') : jw_Spec mi d mc ms o As μ hs Φ := by
  intro p e ha hc hk s m args below hf happ hP hK
  obtain ⟨t, out, a1, a2, a3, a4⟩ := h p e ha hc hk s m args below hf happ hP hK
  refine ⟨t, out, a1, a2, a3, ?_⟩
  rcases a4 with q | ⟨q, q1, E, ce, L, ⟨⟨μ', q2, q3⟩, q4⟩, q5⟩
  · exact q
  · exact absurd q3 (h2 _ _ _)
theorem jw_simp {mi : jw_M} {As : List Value} {d mc ms : Nat} {Φ Φ' : Option Value → jw_Mem → Nat → Prop} (h : jw_Spec mi d mc ms o As μ hs Φ) (h1 : ∀ v μ' s', Φ v μ' s' → Φ' v μ' s') : jw_Spec mi d mc ms o As μ hs Φ' := by
  intro p e ha hc hk s m args below hf happ hP hK
  obtain ⟨t, out, a1, a2, a3, ⟨⟨⟨v, μ', q1, q2, q3⟩, q4⟩, q5⟩⟩ := h p e ha hc hk s m args below hf happ hP hK
  exact ⟨t, out, a1, a2, a3, ⟨⟨⟨v, μ', q1, q2, h1 _ _ _ q3⟩, q4⟩, q5⟩⟩
def kx_small (n : Nat) (x : Int32) : Nat := if x < 0 ∨ nI n < x then 1 else 0
theorem jx_small (n : Nat) (hn : n < 2 ^ 31) (x : Int32) : ((x < 0 ∨ nI n < x) ∧ (x.toInt < 0 ∨ (n : Int) < x.toInt)) ∨ ∃ j, j ≤ n ∧ x = nI j := by
  by_cases h : x < 0
  · exact Or.inl ⟨Or.inl h, Or.inl (Int32.lt_iff_toInt_lt.mp h)⟩
  · by_cases h2 : nI n < x
    · refine Or.inl ⟨Or.inr h2, Or.inr ?_⟩
      have := Int32.lt_iff_toInt_lt.mp h2
      rw [nI_toInt hn] at this
      exact this
    · obtain ⟨j, hj, rfl⟩ := nI_of h
      refine Or.inr ⟨j, ?_, rfl⟩
      by_cases h3 : j ≤ n
      · exact h3
      · exact absurd ((nI_ltI hn hj).mpr (by omega)) h2
theorem kx_small_ok {n j : Nat} (hn : n < 2 ^ 31) (h : j ≤ n) : kx_small n (nI j) = 0 := by
  unfold kx_small
  rw [if_neg]
  rintro (z | z)
  · exact nI_pos (by omega) z
  · have := (nI_ltI hn (by omega)).mp z
    omega
def mv_many (j : Nat) : Int32 := if j = 1 then 1 else 0
theorem by_many0 (h : bw_New o μ b) (x : Int32) : jw_SpX mi_Branchwork_many 7 1 6 o [.ref b, .int x] μ hs (fun v μ' s' => (∃ j, j ≤ 5 ∧ x = nI j ∧ v = some (.int (mv_many j))) ∧ s' = hs ∧ bw_New o μ' b ∧ jw_Fr μ μ' (b + 64) 1) (fun E μ' s' => E = jx_IA ∧ kx_small 5 x = 1 ∧ μ' = μ) := by
  refine jw_specX (by decide +kernel) (Nat.le_of_ble_eq_true rfl) rfl (fun k hR hX => ?_)
  have hE := hX.E
  have hN := h
  obtain ⟨h0, hT, hH, -, hK, -⟩ := h
  have hT0 := hT.1
  have hH0 := hH.1
  have hK0 := hK.1
  have hF : jw_Fr μ μ (b + 64) 1 := jw_Fr.rf
  refine jw_iload_n (pc' := 1) jd_Branchwork_many_0 rfl rfl rfl ?_
  rcases jx_small 5 (by omega) x with ⟨hx, hx2⟩ | ⟨j, hj, rfl⟩
  · refine jw_tableOut (tgt := 102) jd_Branchwork_many_1 hx2 (by decide) ?_
    refine jw_throwS hR hX jt_IllegalArgumentException js_Branchwork_235 jd_Branchwork_many_102 jd_Branchwork_many_105 jd_Branchwork_many_106 jd_Branchwork_many_108 jd_Branchwork_many_111 (Nat.le_of_ble_eq_true rfl) (by omega) (by omega) (by omega) (fun s9 hle9 => ?_)
    exact ⟨rfl, by unfold kx_small; rw [if_pos hx], rfl⟩
  rcases (by omega : j = 0 ∨ j = 1 ∨ j = 2 ∨ j = 3 ∨ j = 4 ∨ j = 5) with rfl | rfl | rfl | rfl | rfl | rfl
  · refine jw_tableIn (off := 39) (tgt := 40) jd_Branchwork_many_1 (by decide) (by decide) (by decide) (by decide) ?_
    refine jw_aload_n (pc' := 41) jd_Branchwork_many_40 rfl rfl rfl ?_
    refine jw_get (pc' := 44) (kf := 1) jc_Branchwork (by decide) jq_284 jd_Branchwork_many_41 (by assumption) rfl rfl ?_
    refine jw_callV0 (pc' := 47) hR (bs_kept hH) jm_History_kept jq_322 jc_History jd_Branchwork_many_44 (by assumption) rfl rfl (Nat.le_of_ble_eq_true rfl) (by omega) (by decide) (by omega) (by omega) rfl rfl ?_
    refine jw_callS0 (pc' := 50) hR (bs_bitCount0) jm_Integer_bitCount jq_399 jd_Branchwork_many_47 rfl rfl (Nat.le_of_ble_eq_true rfl) (by omega) (by decide) (by omega) (by omega) rfl rfl ?_
    refine jw_iret hE jd_Branchwork_many_50 rfl (by omega) (by omega) ?_
    exact ⟨⟨0, by omega, rfl, rfl⟩, rfl, hN, hF⟩
  · refine jw_tableIn (off := 50) (tgt := 51) jd_Branchwork_many_1 (by decide) (by decide) (by decide) (by decide) ?_
    refine jw_aload_n (pc' := 52) jd_Branchwork_many_51 rfl rfl rfl ?_
    refine jw_get (pc' := 55) (kf := 7) jc_Branchwork (by decide) jq_290 jd_Branchwork_many_52 (by assumption) rfl rfl ?_
    refine jw_iret hE jd_Branchwork_many_55 rfl (by omega) (by omega) ?_
    exact ⟨⟨1, by omega, rfl, rfl⟩, rfl, hN, hF⟩
  · refine jw_tableIn (off := 55) (tgt := 56) jd_Branchwork_many_1 (by decide) (by decide) (by decide) (by decide) ?_
    refine jw_aload_n (pc' := 57) jd_Branchwork_many_56 rfl rfl rfl ?_
    refine jw_get (pc' := 60) (kf := 0) jc_Branchwork (by decide) jq_283 jd_Branchwork_many_57 (by assumption) rfl rfl ?_
    refine jw_callV0 (pc' := 63) hR (bt_countFiles hT) jm_Tree_countFiles jq_400 jc_Tree jd_Branchwork_many_60 (by assumption) rfl rfl (Nat.le_of_ble_eq_true rfl) (by omega) (by decide) (by omega) (by omega) rfl rfl ?_
    refine jw_iret hE jd_Branchwork_many_63 rfl (by omega) (by omega) ?_
    exact ⟨⟨2, by omega, rfl, by decide⟩, rfl, hN, hF⟩
  · refine jw_tableIn (off := 63) (tgt := 64) jd_Branchwork_many_1 (by decide) (by decide) (by decide) (by decide) ?_
    refine jw_aload_n (pc' := 65) jd_Branchwork_many_64 rfl rfl rfl ?_
    refine jw_get (pc' := 68) (kf := 3) jc_Branchwork (by decide) jq_286 jd_Branchwork_many_65 (by assumption) rfl rfl ?_
    refine jw_callV0 (pc' := 71) hR (by_howMany hK) jm_Conflicts_howMany jq_413 jc_Conflicts jd_Branchwork_many_68 (by assumption) rfl rfl (Nat.le_of_ble_eq_true rfl) (by omega) (by decide) (by omega) (by omega) rfl rfl ?_
    refine jw_iret hE jd_Branchwork_many_71 rfl (by omega) (by omega) ?_
    exact ⟨⟨3, by omega, rfl, by decide⟩, rfl, hN, hF⟩
  · refine jw_tableIn (off := 71) (tgt := 72) jd_Branchwork_many_1 (by decide) (by decide) (by decide) (by decide) ?_
    refine jw_aload_n (pc' := 73) jd_Branchwork_many_72 rfl rfl rfl ?_
    refine jw_get (pc' := 76) (kf := 1) jc_Branchwork (by decide) jq_284 jd_Branchwork_many_73 (by assumption) rfl rfl ?_
    refine jw_aload_n (pc' := 77) jd_Branchwork_many_76 rfl rfl rfl ?_
    refine jw_get (pc' := 80) (kf := 1) jc_Branchwork (by decide) jq_284 jd_Branchwork_many_77 (by assumption) rfl rfl ?_
    refine jw_callV0 (pc' := 83) hR (bs_kept hH) jm_History_kept jq_322 jc_History jd_Branchwork_many_80 (by assumption) rfl rfl (Nat.le_of_ble_eq_true rfl) (by omega) (by decide) (by omega) (by omega) rfl rfl ?_
    refine jw_callV0 (pc' := 86) hR (bs_countTrees0 hH) jm_History_countTrees jq_417 jc_History jd_Branchwork_many_83 (by assumption) rfl rfl (Nat.le_of_ble_eq_true rfl) (by omega) (by decide) (by omega) (by omega) rfl rfl ?_
    refine jw_iret hE jd_Branchwork_many_86 rfl (by omega) (by omega) ?_
    exact ⟨⟨4, by omega, rfl, rfl⟩, rfl, hN, hF⟩
  · refine jw_tableIn (off := 86) (tgt := 87) jd_Branchwork_many_1 (by decide) (by decide) (by decide) (by decide) ?_
    refine jw_aload_n (pc' := 88) jd_Branchwork_many_87 rfl rfl rfl ?_
    refine jw_get (pc' := 91) (kf := 1) jc_Branchwork (by decide) jq_284 jd_Branchwork_many_88 (by assumption) rfl rfl ?_
    refine jw_aload_n (pc' := 92) jd_Branchwork_many_91 rfl rfl rfl ?_
    refine jw_get (pc' := 95) (kf := 1) jc_Branchwork (by decide) jq_284 jd_Branchwork_many_92 (by assumption) rfl rfl ?_
    refine jw_callV0 (pc' := 98) hR (bs_kept hH) jm_History_kept jq_322 jc_History jd_Branchwork_many_95 (by assumption) rfl rfl (Nat.le_of_ble_eq_true rfl) (by omega) (by decide) (by omega) (by omega) rfl rfl ?_
    refine jw_callV (pc' := 101) hR (bs_countContents0 hH) jm_History_countContents jq_373 jc_History jd_Branchwork_many_98 (by assumption) rfl rfl (Nat.le_of_ble_eq_true rfl) (by omega) (by decide) (by omega) (by omega) rfl (fun v μ9 s9 q9 hle => ?_)
    obtain ⟨rfl, rfl, hH1, f9⟩ := q9
    refine jw_iret hE jd_Branchwork_many_101 rfl (by omega) (by omega) ?_
    exact ⟨⟨5, by omega, rfl, rfl⟩, rfl, hN.met f9 hH1, f9⟩
def mv_now (j : Nat) : Int32 := if j = 0 then 0 else -1
theorem by_now0 (h : bw_New o μ b) (x : Int32) : jw_SpX mi_Branchwork_now 7 1 6 o [.ref b, .int x] μ hs (fun v μ' s' => (∃ j, j ≤ 2 ∧ x = nI j ∧ v = some (.int (mv_now j))) ∧ s' = hs ∧ μ' = μ) (fun E μ' s' => E = jx_IA ∧ kx_small 2 x = 1 ∧ μ' = μ) := by
  refine jw_specX (by decide +kernel) (Nat.le_of_ble_eq_true rfl) rfl (fun k hR hX => ?_)
  have hE := hX.E
  have h0 := h.1
  refine jw_iload_n (pc' := 1) jd_Branchwork_now_0 rfl rfl rfl ?_
  rcases jx_small 2 (by omega) x with ⟨hx, hx2⟩ | ⟨j, hj, rfl⟩
  · refine jw_tableOut (tgt := 43) jd_Branchwork_now_1 hx2 (by decide) ?_
    refine jw_throwS hR hX jt_IllegalArgumentException js_Branchwork_237 jd_Branchwork_now_43 jd_Branchwork_now_46 jd_Branchwork_now_47 jd_Branchwork_now_49 jd_Branchwork_now_52 (Nat.le_of_ble_eq_true rfl) (by omega) (by omega) (by omega) (fun s9 hle9 => ?_)
    exact ⟨rfl, by unfold kx_small; rw [if_pos hx], rfl⟩
  rcases (by omega : j = 0 ∨ j = 1 ∨ j = 2) with rfl | rfl | rfl
  · refine jw_tableIn (off := 27) (tgt := 28) jd_Branchwork_now_1 (by decide) (by decide) (by decide) (by decide) ?_
    refine jw_aload_n (pc' := 29) jd_Branchwork_now_28 rfl rfl rfl ?_
    refine jw_get (pc' := 32) (kf := 8) jc_Branchwork (by decide) jq_291 jd_Branchwork_now_29 (by assumption) rfl rfl ?_
    refine jw_iret hE jd_Branchwork_now_32 rfl (by omega) (by omega) ?_
    exact ⟨⟨0, by omega, rfl, rfl⟩, rfl, rfl⟩
  · refine jw_tableIn (off := 32) (tgt := 33) jd_Branchwork_now_1 (by decide) (by decide) (by decide) (by decide) ?_
    refine jw_aload_n (pc' := 34) jd_Branchwork_now_33 rfl rfl rfl ?_
    refine jw_callV0 (pc' := 37) hR (by_head h) jm_Branchwork_head jq_494 jc_Branchwork jd_Branchwork_now_34 (by assumption) rfl rfl (Nat.le_of_ble_eq_true rfl) (by omega) (by decide) (by omega) (by omega) rfl rfl ?_
    refine jw_iret hE jd_Branchwork_now_37 rfl (by omega) (by omega) ?_
    exact ⟨⟨1, by omega, rfl, rfl⟩, rfl, rfl⟩
  · refine jw_tableIn (off := 37) (tgt := 38) jd_Branchwork_now_1 (by decide) (by decide) (by decide) (by decide) ?_
    refine jw_aload_n (pc' := 39) jd_Branchwork_now_38 rfl rfl rfl ?_
    refine jw_get (pc' := 42) (kf := 9) jc_Branchwork (by decide) jq_292 jd_Branchwork_now_39 (by assumption) rfl rfl ?_
    refine jw_iret hE jd_Branchwork_now_42 rfl (by omega) (by omega) ?_
    exact ⟨⟨2, by omega, rfl, rfl⟩, rfl, rfl⟩
theorem by_at0 (h : bw_New o μ b) (x : Int32) : jw_SpX mi_Branchwork_at 7 1 6 o [.ref b, .int x] μ hs (fun v μ' s' => x = 0 ∧ v = some (.int (-1)) ∧ s' = hs ∧ μ' = μ) (fun E μ' s' => E = jx_IO ∧ kx_z x = 1 ∧ μ' = μ) := by
  refine jw_specX (by decide +kernel) (Nat.le_of_ble_eq_true rfl) rfl (fun k hR hX => ?_)
  have hE := hX.E
  have hN := h
  obtain ⟨h0, -, -, -, -, -, -, ⟨f, hf, hf1⟩⟩ := h
  have hf9 : μ (b + 983) = some (.inl (o.2.2.1 0, 5, .inl f)) := hf
  refine jw_aload_n (pc' := 1) jd_Branchwork_at_0 rfl rfl rfl ?_
  refine jw_iload_n (pc' := 2) jd_Branchwork_at_1 rfl rfl rfl ?_
  refine jw_callVX (pc' := 5) hR (by_requireBranch hN x) jm_Branchwork_requireBranch jq_503 jc_Branchwork jd_Branchwork_at_2 (by assumption) rfl rfl (Nat.le_of_ble_eq_true rfl) (by omega) (by decide) (by omega) (by omega) rfl (fun E9 q9 μ s9 hΨ hle9 => jw_out hX (by omega) (by omega) ?_) (fun v μ9 s9 q9 hle => ?_)
  · obtain ⟨rfl, rfl, hin⟩ := hΨ
    exact ⟨rfl, hin, rfl⟩
  obtain ⟨rfl, rfl, rfl, rfl⟩ := q9
  refine jw_aload_n (pc' := 6) jd_Branchwork_at_5 rfl rfl rfl ?_
  refine jw_get (pc' := 9) (kf := 6) jc_Branchwork (by decide) jq_289 jd_Branchwork_at_6 (by assumption) rfl rfl ?_
  refine jw_iload_n (pc' := 10) jd_Branchwork_at_9 rfl rfl rfl ?_
  refine jw_iald (pc' := 11) (i := 0) jd_Branchwork_at_10 (by assumption) rfl (vp_in_nI (n := 0) (by omega) (by omega)) ((congrArg f (nI_clamp (n := 0) (by omega))).trans (hf1 0 (by omega))) rfl ?_
  refine jw_iret hE jd_Branchwork_at_11 rfl (by omega) (by omega) ?_
  exact ⟨rfl, rfl, rfl, rfl⟩
def kx_show (c x : Int32) : Nat := if c ≠ -1 ∨ ¬ jx_in x then 1 else 0
theorem by_fileToShow (h : bw_New o μ b) (c x : Int32) : jw_SpX mi_Branchwork_fileToShow 7 2 12 o [.ref b, .int c, .int x] μ hs (fun v μ' s' => (∃ p, p < 12 ∧ x = nI p ∧ v = some (.ref (b + 1 + 4 + 2 * p))) ∧ c = -1 ∧ s' = hs ∧ μ' = μ) (fun E μ' s' => E = jx_IO ∧ kx_show c x = 1 ∧ μ' = μ) := by
  refine jw_specX (by decide +kernel) (Nat.le_of_ble_eq_true rfl) rfl (fun k hR hX => ?_)
  have hE := hX.E
  have hN := h
  obtain ⟨h0, hT, -⟩ := h
  have hT0 := hT.1
  refine jw_iload_n (pc' := 1) jd_Branchwork_fileToShow_0 rfl rfl rfl ?_
  refine jw_iconst (pc' := 2) (v := -1) jd_Branchwork_fileToShow_1 (by decide +kernel) rfl ?_
  refine jw_icmp_eq (tgt := 10) (pc' := 5) jd_Branchwork_fileToShow_2 (by decide) rfl (fun c1 => ?_) (fun c1 => ?_)
  rotate_left
  · refine jw_aload_n (pc' := 6) jd_Branchwork_fileToShow_5 rfl rfl rfl ?_
    refine jw_iload_n (pc' := 7) jd_Branchwork_fileToShow_6 rfl rfl rfl ?_
    refine jw_callVX (pc' := 10) hR (by_requireCommit hN c) jm_Branchwork_requireCommit jq_562 jc_Branchwork jd_Branchwork_fileToShow_7 (by assumption) rfl rfl (Nat.le_of_ble_eq_true rfl) (by omega) (by decide) (by omega) (by omega) rfl (fun E9 q9 μ s9 hΨ hle9 => jw_out hX (by omega) (by omega) ?_) (fun v μ9 s9 q9 hle => ?_)
    · obtain ⟨rfl, rfl⟩ := hΨ
      exact ⟨rfl, by unfold kx_show; rw [if_pos (Or.inl c1)], rfl⟩
    · exact q9.elim
  subst c1
  refine jw_iload_n (pc' := 11) jd_Branchwork_fileToShow_10 rfl rfl rfl ?_
  refine jw_callSX (pc' := 14) hR (by_requirePath x) jm_Branchwork_requirePath jq_527 jd_Branchwork_fileToShow_11 rfl rfl (Nat.le_of_ble_eq_true rfl) (by omega) (by decide) (by omega) (by omega) rfl (fun E9 q9 μ s9 hΨ hle9 => jw_out hX (by omega) (by omega) ?_) (fun v μ9 s9 q9 hle => ?_)
  · obtain ⟨rfl, rfl, hin⟩ := hΨ
    exact ⟨rfl, by unfold kx_show; rw [if_pos (Or.inr hin)], rfl⟩
  obtain ⟨rfl, rfl, rfl, hin⟩ := q9
  obtain ⟨p, hp, rfl⟩ := hin.nat
  refine jw_iload_n (pc' := 15) jd_Branchwork_fileToShow_14 rfl rfl rfl ?_
  refine jw_iconst (pc' := 16) (v := -1) jd_Branchwork_fileToShow_15 (by decide +kernel) rfl ?_
  refine jw_icmp_ne (tgt := 30) (pc' := 19) jd_Branchwork_fileToShow_16 (by decide) rfl (fun c2 => ?_) (fun c2 => ?_)
  · exact absurd rfl c2
  refine jw_aload_n (pc' := 20) jd_Branchwork_fileToShow_19 rfl rfl rfl ?_
  refine jw_get (pc' := 23) (kf := 0) jc_Branchwork (by decide) jq_283 jd_Branchwork_fileToShow_20 (by assumption) rfl rfl ?_
  refine jw_iload_n (pc' := 24) jd_Branchwork_fileToShow_23 rfl rfl rfl ?_
  refine jw_callV0 (pc' := 27) hR (bt_fileAt hT hp) jm_Tree_fileAt jq_532 jc_Tree jd_Branchwork_fileToShow_24 (by assumption) rfl rfl (Nat.le_of_ble_eq_true rfl) (by omega) (by decide) (by omega) (by omega) rfl rfl ?_
  refine jw_goto (tgt := 42) jd_Branchwork_fileToShow_27 (by decide) ?_
  refine jw_aret hE jd_Branchwork_fileToShow_42 rfl (by first | exact Or.inl ⟨_, rfl⟩ | exact Or.inr ⟨_, rfl⟩) (by first | exact Or.inr ⟨_, rfl⟩ | exact Or.inl rfl) (by omega) (by omega) ?_
  exact ⟨⟨p, hp, rfl, rfl⟩, rfl, rfl, rfl⟩
theorem by_line (h : bw_New o μ b) (c x y : Int32) : jy_F mi_Branchwork_line o [.ref b, .int c, .int x, .int y] μ hs b [jx_IO] (kx_show c x) (.int (-2)) := by
  refine jw_specX (by decide +kernel) (Nat.le_of_ble_eq_true rfl) rfl (fun k hR hX => ?_)
  have hE := hX.E
  have hN := h
  obtain ⟨h0, hT, -⟩ := h
  refine jw_aload_n (pc' := 1) jd_Branchwork_line_0 rfl rfl rfl ?_
  refine jw_iload_n (pc' := 2) jd_Branchwork_line_1 rfl rfl rfl ?_
  refine jw_iload_n (pc' := 3) jd_Branchwork_line_2 rfl rfl rfl ?_
  refine jw_callVX (pc' := 6) hR (by_fileToShow hN c x) jm_Branchwork_fileToShow jq_940 jc_Branchwork jd_Branchwork_line_3 (by assumption) rfl rfl (Nat.le_of_ble_eq_true rfl) (by omega) (by decide) (by omega) (by omega) rfl (fun E9 q9 μ s9 hΨ hle9 => jw_out hX (by omega) (by omega) ?_) (fun v μ9 s9 q9 hle => ?_)
  · obtain ⟨rfl, hk, rfl⟩ := hΨ
    exact ⟨⟨0, rfl, hk⟩, jw_Fr.rf⟩
  obtain ⟨⟨p, hp, rfl, rfl⟩, rfl, rfl, rfl⟩ := q9
  have hC := hT.2.2.2.1 p hp
  have hC0 := hC.1
  refine jw_astore (pc' := 8) (lc' := [(0, _), (1, _), (2, _), (3, _), (4, _)]) jd_Branchwork_line_6 (Nat.le_of_ble_eq_true rfl) ⟨rfl, rfl, rfl, rfl, rfl, trivial⟩ rfl ?_
  refine jw_aload (pc' := 10) jd_Branchwork_line_8 rfl rfl ?_
  refine jw_callV0 (pc' := 13) hR (bc_exists hC (Or.inl rfl)) jm_Content_exists jq_547 jc_Content jd_Branchwork_line_10 (by assumption) rfl rfl (Nat.le_of_ble_eq_true rfl) (by omega) (by decide) (by omega) (by omega) rfl rfl ?_
  refine jw_if_eq (tgt := 25) (pc' := 16) jd_Branchwork_line_13 (by decide) rfl (fun c1 => ?_) (fun c1 => ?_)
  · refine jw_bipush (pc' := 27) (v := (-2)) jd_Branchwork_line_25 (by decide +kernel) rfl ?_
    refine jw_iret hE jd_Branchwork_line_27 rfl (by omega) (by omega) ?_
    refine ⟨rfl, ?_, jw_Fr.rf⟩
    unfold kx_show
    rw [if_neg]
    rintro (z | z)
    · exact z rfl
    · exact z ⟨nI_pos (by omega), nI_lt (by omega) (by omega)⟩
  · exact absurd rfl c1
theorem by_size0 (h : bw_New o μ b) (c x : Int32) : jy_F mi_Branchwork_size o [.ref b, .int c, .int x] μ hs b [jx_IO] (kx_show c x) (.int (-1)) := by
  refine jw_specX (by decide +kernel) (Nat.le_of_ble_eq_true rfl) rfl (fun k hR hX => ?_)
  have hE := hX.E
  have hN := h
  obtain ⟨h0, hT, -⟩ := h
  refine jw_aload_n (pc' := 1) jd_Branchwork_size_0 rfl rfl rfl ?_
  refine jw_iload_n (pc' := 2) jd_Branchwork_size_1 rfl rfl rfl ?_
  refine jw_iload_n (pc' := 3) jd_Branchwork_size_2 rfl rfl rfl ?_
  refine jw_callVX (pc' := 6) hR (by_fileToShow hN c x) jm_Branchwork_fileToShow jq_940 jc_Branchwork jd_Branchwork_size_3 (by assumption) rfl rfl (Nat.le_of_ble_eq_true rfl) (by omega) (by decide) (by omega) (by omega) rfl (fun E9 q9 μ s9 hΨ hle9 => jw_out hX (by omega) (by omega) ?_) (fun v μ9 s9 q9 hle => ?_)
  · obtain ⟨rfl, hk, rfl⟩ := hΨ
    exact ⟨⟨0, rfl, hk⟩, jw_Fr.rf⟩
  obtain ⟨⟨p, hp, rfl, rfl⟩, rfl, rfl, rfl⟩ := q9
  have hC := hT.2.2.2.1 p hp
  have hC0 := hC.1
  refine jw_astore_n (pc' := 7) (lc' := [(0, _), (1, _), (2, _), (3, _)]) jd_Branchwork_size_6 rfl (Nat.le_of_ble_eq_true rfl) ⟨rfl, rfl, rfl, rfl, trivial⟩ rfl ?_
  refine jw_aload_n (pc' := 8) jd_Branchwork_size_7 rfl rfl rfl ?_
  refine jw_callV0 (pc' := 11) hR (bc_exists hC (Or.inl rfl)) jm_Content_exists jq_547 jc_Content jd_Branchwork_size_8 (by assumption) rfl rfl (Nat.le_of_ble_eq_true rfl) (by omega) (by decide) (by omega) (by omega) rfl rfl ?_
  refine jw_if_eq (tgt := 21) (pc' := 14) jd_Branchwork_size_11 (by decide) rfl (fun c1 => ?_) (fun c1 => ?_)
  · refine jw_iconst (pc' := 22) (v := -1) jd_Branchwork_size_21 (by decide +kernel) rfl ?_
    refine jw_iret hE jd_Branchwork_size_22 rfl (by omega) (by omega) ?_
    refine ⟨rfl, ?_, jw_Fr.rf⟩
    unfold kx_show
    rw [if_neg]
    rintro (z | z)
    · exact z rfl
    · exact z ⟨nI_pos (by omega), nI_lt (by omega) (by omega)⟩
  · exact absurd rfl c1
theorem by_collect (h : bw_New o μ b) : jw_Spec mi_Branchwork_collect 6 0 0 o [.ref b] μ hs (fun v μ' s' => v = some (.int 0) ∧ s' = hs ∧ jw_Fr μ μ' b 984) := by
  refine jw_spec (by decide +kernel) (Nat.le_of_ble_eq_true rfl) rfl (fun k hR hE => ?_)
  have h0 := h.1
  have hF : jw_Fr μ μ b 984 := jw_Fr.rf
  refine jw_aload_n (pc' := 1) jd_Branchwork_collect_0 rfl rfl rfl ?_
  refine jw_callV (pc' := 4) hR (bs_garbage h) jm_Branchwork_garbage jq_318 jc_Branchwork jd_Branchwork_collect_1 (by assumption) rfl rfl (Nat.le_of_ble_eq_true rfl) (by omega) (by decide) (by omega) (by omega) rfl (fun v μ s9 q9 hle => ?_)
  obtain ⟨rfl, rfl, hN, f9⟩ := q9
  have hF := hF.trans f9 (by omega) (by omega)
  have h0 := hN.1
  have hH0 := hN.2.2.1.1
  have hkeep : jw_Spec mi_History_keepOnly 0 0 0 o [.ref (b + 29), .int 0] μ s9 (fun v μ' s' => v = none ∧ s' = s9 ∧ jw_Fr μ μ' (b + 29) 1) := by
    refine jw_spec (by decide +kernel) (Nat.le_of_ble_eq_true rfl) rfl (fun k hR hE => ?_)
    refine jw_aload_n (pc' := 1) jd_History_keepOnly_0 rfl rfl rfl ?_
    refine jw_dup (pc' := 2) jd_History_keepOnly_1 rfl rfl ?_
    refine jw_get (pc' := 5) (kf := 9) jc_History (by decide) jq_142 jd_History_keepOnly_2 (by assumption) rfl rfl ?_
    refine jw_iload_n (pc' := 6) jd_History_keepOnly_5 rfl rfl rfl ?_
    refine jw_iand (pc' := 7) jd_History_keepOnly_6 rfl rfl ?_
    refine jw_put (pc' := 10) (kf := 9) (ty := .int) (fs' := [_, _, _, _, _, _, _, _, _, _]) jc_History (by decide) jq_142 jd_History_keepOnly_7 rfl (by decide +kernel) (by assumption) rfl rfl rfl (Nat.le_of_ble_eq_true rfl) rfl (fun μ hH0 f9 => ?_)
    refine jw_vret hE jd_History_keepOnly_10 rfl (by omega) (by omega) ?_
    exact ⟨rfl, rfl, jw_Fr.o f9⟩
  refine jw_istore_n (pc' := 5) (lc' := [(0, _), (1, _)]) jd_Branchwork_collect_4 rfl (Nat.le_of_ble_eq_true rfl) ⟨rfl, rfl, trivial⟩ rfl ?_
  refine jw_aload_n (pc' := 6) jd_Branchwork_collect_5 rfl rfl rfl ?_
  refine jw_get (pc' := 9) (kf := 1) jc_Branchwork (by decide) jq_284 jd_Branchwork_collect_6 (by assumption) rfl rfl ?_
  refine jw_aload_n (pc' := 10) jd_Branchwork_collect_9 rfl rfl rfl ?_
  refine jw_callV0 (pc' := 13) hR (bs_reached hN) jm_Branchwork_reached jq_355 jc_Branchwork jd_Branchwork_collect_10 (by assumption) rfl rfl (Nat.le_of_ble_eq_true rfl) (by omega) (by decide) (by omega) (by omega) rfl rfl ?_
  refine jw_callV (pc' := 16) hR (hkeep) jm_History_keepOnly jq_364 jc_History jd_Branchwork_collect_13 (by assumption) rfl rfl (Nat.le_of_ble_eq_true rfl) (by omega) (by decide) (by omega) (by omega) rfl (fun v μ9 s8 q9 hle => ?_)
  obtain ⟨rfl, rfl, f9⟩ := q9
  have hF := hF.trans f9 (by omega) (by omega)
  refine jw_iload_n (pc' := 17) jd_Branchwork_collect_16 rfl rfl rfl ?_
  refine jw_iret hE jd_Branchwork_collect_17 rfl (by omega) (by omega) ?_
  exact ⟨rfl, rfl, hF⟩
end
