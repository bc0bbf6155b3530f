theorem jd_Tree_init_0 : decode mi_Tree_init.2.1 0 = .ok (.aload_n 0, 1) := by decide +kernel
theorem jd_Tree_init_1 : decode mi_Tree_init.2.1 1 = .ok (.invokespecial 3, 3) := by decide +kernel
theorem jd_Tree_init_4 : decode mi_Tree_init.2.1 4 = .ok (.aload_n 0, 1) := by decide +kernel
theorem jd_Tree_init_5 : decode mi_Tree_init.2.1 5 = .ok (.bipush 12, 2) := by decide +kernel
theorem jd_Tree_init_7 : decode mi_Tree_init.2.1 7 = .ok (.anewarray 9, 3) := by decide +kernel
theorem jd_Tree_init_10 : decode mi_Tree_init.2.1 10 = .ok (.putfield 11, 3) := by decide +kernel
theorem jd_Tree_init_13 : decode mi_Tree_init.2.1 13 = .ok (.aload_n 0, 1) := by decide +kernel
theorem jd_Tree_init_14 : decode mi_Tree_init.2.1 14 = .ok (.new 9, 3) := by decide +kernel
theorem jd_Tree_init_17 : decode mi_Tree_init.2.1 17 = .ok (.dup, 1) := by decide +kernel
theorem jd_Tree_init_18 : decode mi_Tree_init.2.1 18 = .ok (.invokespecial 17, 3) := by decide +kernel
theorem jd_Tree_init_21 : decode mi_Tree_init.2.1 21 = .ok (.putfield 18, 3) := by decide +kernel
theorem jd_Tree_init_24 : decode mi_Tree_init.2.1 24 = .ok (.iconst 0, 1) := by decide +kernel
theorem jd_Tree_init_25 : decode mi_Tree_init.2.1 25 = .ok (.istore_n 1, 1) := by decide +kernel
theorem jd_Tree_init_26 : decode mi_Tree_init.2.1 26 = .ok (.iload_n 1, 1) := by decide +kernel
theorem jd_Tree_init_27 : decode mi_Tree_init.2.1 27 = .ok (.bipush 12, 2) := by decide +kernel
theorem jd_Tree_init_29 : decode mi_Tree_init.2.1 29 = .ok (.if_icmp .ge 22, 3) := by decide +kernel
theorem jd_Tree_init_32 : decode mi_Tree_init.2.1 32 = .ok (.aload_n 0, 1) := by decide +kernel
theorem jd_Tree_init_33 : decode mi_Tree_init.2.1 33 = .ok (.getfield 11, 3) := by decide +kernel
theorem jd_Tree_init_36 : decode mi_Tree_init.2.1 36 = .ok (.iload_n 1, 1) := by decide +kernel
theorem jd_Tree_init_37 : decode mi_Tree_init.2.1 37 = .ok (.new 9, 3) := by decide +kernel
theorem jd_Tree_init_40 : decode mi_Tree_init.2.1 40 = .ok (.dup, 1) := by decide +kernel
theorem jd_Tree_init_41 : decode mi_Tree_init.2.1 41 = .ok (.invokespecial 17, 3) := by decide +kernel
theorem jd_Tree_init_44 : decode mi_Tree_init.2.1 44 = .ok (.aastore, 1) := by decide +kernel
theorem jd_Tree_init_45 : decode mi_Tree_init.2.1 45 = .ok (.iinc 1 1, 3) := by decide +kernel
theorem jd_Tree_init_48 : decode mi_Tree_init.2.1 48 = .ok (.goto (-22), 3) := by decide +kernel
theorem jd_Tree_init_51 : decode mi_Tree_init.2.1 51 = .ok (.return_, 1) := by decide +kernel
theorem jd_Tree_fileAt_0 : decode mi_Tree_fileAt.2.1 0 = .ok (.iload_n 1, 1) := by decide +kernel
theorem jd_Tree_fileAt_1 : decode mi_Tree_fileAt.2.1 1 = .ok (.ifCond .lt 18, 3) := by decide +kernel
theorem jd_Tree_fileAt_4 : decode mi_Tree_fileAt.2.1 4 = .ok (.iload_n 1, 1) := by decide +kernel
theorem jd_Tree_fileAt_5 : decode mi_Tree_fileAt.2.1 5 = .ok (.bipush 12, 2) := by decide +kernel
theorem jd_Tree_fileAt_7 : decode mi_Tree_fileAt.2.1 7 = .ok (.if_icmp .ge 12, 3) := by decide +kernel
theorem jd_Tree_fileAt_10 : decode mi_Tree_fileAt.2.1 10 = .ok (.aload_n 0, 1) := by decide +kernel
theorem jd_Tree_fileAt_11 : decode mi_Tree_fileAt.2.1 11 = .ok (.getfield 11, 3) := by decide +kernel
theorem jd_Tree_fileAt_14 : decode mi_Tree_fileAt.2.1 14 = .ok (.iload_n 1, 1) := by decide +kernel
theorem jd_Tree_fileAt_15 : decode mi_Tree_fileAt.2.1 15 = .ok (.aaload, 1) := by decide +kernel
theorem jd_Tree_fileAt_16 : decode mi_Tree_fileAt.2.1 16 = .ok (.goto 7, 3) := by decide +kernel
theorem jd_Tree_fileAt_19 : decode mi_Tree_fileAt.2.1 19 = .ok (.aload_n 0, 1) := by decide +kernel
theorem jd_Tree_fileAt_20 : decode mi_Tree_fileAt.2.1 20 = .ok (.getfield 18, 3) := by decide +kernel
theorem jd_Tree_fileAt_23 : decode mi_Tree_fileAt.2.1 23 = .ok (.areturn, 1) := by decide +kernel
theorem jd_Tree_has_0 : decode mi_Tree_has.2.1 0 = .ok (.aload_n 0, 1) := by decide +kernel
theorem jd_Tree_has_1 : decode mi_Tree_has.2.1 1 = .ok (.iload_n 1, 1) := by decide +kernel
theorem jd_Tree_has_2 : decode mi_Tree_has.2.1 2 = .ok (.invokevirtual 22, 3) := by decide +kernel
theorem jd_Tree_has_5 : decode mi_Tree_has.2.1 5 = .ok (.invokevirtual 26, 3) := by decide +kernel
theorem jd_Tree_has_8 : decode mi_Tree_has.2.1 8 = .ok (.ireturn, 1) := by decide +kernel
theorem jd_Tree_countFiles_0 : decode mi_Tree_countFiles.2.1 0 = .ok (.iconst 0, 1) := by decide +kernel
theorem jd_Tree_countFiles_1 : decode mi_Tree_countFiles.2.1 1 = .ok (.istore_n 1, 1) := by decide +kernel
theorem jd_Tree_countFiles_2 : decode mi_Tree_countFiles.2.1 2 = .ok (.iconst 0, 1) := by decide +kernel
theorem jd_Tree_countFiles_3 : decode mi_Tree_countFiles.2.1 3 = .ok (.istore_n 2, 1) := by decide +kernel
theorem jd_Tree_countFiles_4 : decode mi_Tree_countFiles.2.1 4 = .ok (.iload_n 2, 1) := by decide +kernel
theorem jd_Tree_countFiles_5 : decode mi_Tree_countFiles.2.1 5 = .ok (.bipush 12, 2) := by decide +kernel
theorem jd_Tree_countFiles_7 : decode mi_Tree_countFiles.2.1 7 = .ok (.if_icmp .ge 20, 3) := by decide +kernel
theorem jd_Tree_countFiles_10 : decode mi_Tree_countFiles.2.1 10 = .ok (.aload_n 0, 1) := by decide +kernel
theorem jd_Tree_countFiles_11 : decode mi_Tree_countFiles.2.1 11 = .ok (.iload_n 2, 1) := by decide +kernel
theorem jd_Tree_countFiles_12 : decode mi_Tree_countFiles.2.1 12 = .ok (.invokevirtual 30, 3) := by decide +kernel
theorem jd_Tree_countFiles_15 : decode mi_Tree_countFiles.2.1 15 = .ok (.ifCond .eq 6, 3) := by decide +kernel
theorem jd_Tree_countFiles_18 : decode mi_Tree_countFiles.2.1 18 = .ok (.iinc 1 1, 3) := by decide +kernel
theorem jd_Tree_countFiles_21 : decode mi_Tree_countFiles.2.1 21 = .ok (.iinc 2 1, 3) := by decide +kernel
theorem jd_Tree_countFiles_24 : decode mi_Tree_countFiles.2.1 24 = .ok (.goto (-20), 3) := by decide +kernel
theorem jd_Tree_countFiles_27 : decode mi_Tree_countFiles.2.1 27 = .ok (.iload_n 1, 1) := by decide +kernel
theorem jd_Tree_countFiles_28 : decode mi_Tree_countFiles.2.1 28 = .ok (.ireturn, 1) := by decide +kernel
theorem jd_Tree_sameAs_0 : decode mi_Tree_sameAs.2.1 0 = .ok (.iconst 0, 1) := by decide +kernel
theorem jd_Tree_sameAs_1 : decode mi_Tree_sameAs.2.1 1 = .ok (.istore_n 2, 1) := by decide +kernel
theorem jd_Tree_sameAs_2 : decode mi_Tree_sameAs.2.1 2 = .ok (.iload_n 2, 1) := by decide +kernel
theorem jd_Tree_sameAs_3 : decode mi_Tree_sameAs.2.1 3 = .ok (.bipush 12, 2) := by decide +kernel
theorem jd_Tree_sameAs_5 : decode mi_Tree_sameAs.2.1 5 = .ok (.if_icmp .ge 28, 3) := by decide +kernel
theorem jd_Tree_sameAs_8 : decode mi_Tree_sameAs.2.1 8 = .ok (.aload_n 0, 1) := by decide +kernel
theorem jd_Tree_sameAs_9 : decode mi_Tree_sameAs.2.1 9 = .ok (.getfield 11, 3) := by decide +kernel
theorem jd_Tree_sameAs_12 : decode mi_Tree_sameAs.2.1 12 = .ok (.iload_n 2, 1) := by decide +kernel
theorem jd_Tree_sameAs_13 : decode mi_Tree_sameAs.2.1 13 = .ok (.aaload, 1) := by decide +kernel
theorem jd_Tree_sameAs_14 : decode mi_Tree_sameAs.2.1 14 = .ok (.aload_n 1, 1) := by decide +kernel
theorem jd_Tree_sameAs_15 : decode mi_Tree_sameAs.2.1 15 = .ok (.iload_n 2, 1) := by decide +kernel
theorem jd_Tree_sameAs_16 : decode mi_Tree_sameAs.2.1 16 = .ok (.invokevirtual 22, 3) := by decide +kernel
theorem jd_Tree_sameAs_19 : decode mi_Tree_sameAs.2.1 19 = .ok (.invokevirtual 41, 3) := by decide +kernel
theorem jd_Tree_sameAs_22 : decode mi_Tree_sameAs.2.1 22 = .ok (.ifCond .ne 5, 3) := by decide +kernel
theorem jd_Tree_sameAs_25 : decode mi_Tree_sameAs.2.1 25 = .ok (.iconst 0, 1) := by decide +kernel
theorem jd_Tree_sameAs_26 : decode mi_Tree_sameAs.2.1 26 = .ok (.ireturn, 1) := by decide +kernel
theorem jd_Tree_sameAs_27 : decode mi_Tree_sameAs.2.1 27 = .ok (.iinc 2 1, 3) := by decide +kernel
theorem jd_Tree_sameAs_30 : decode mi_Tree_sameAs.2.1 30 = .ok (.goto (-28), 3) := by decide +kernel
theorem jd_Tree_sameAs_33 : decode mi_Tree_sameAs.2.1 33 = .ok (.iconst 1, 1) := by decide +kernel
theorem jd_Tree_sameAs_34 : decode mi_Tree_sameAs.2.1 34 = .ok (.ireturn, 1) := by decide +kernel
theorem jd_Tree_copyFrom_0 : decode mi_Tree_copyFrom.2.1 0 = .ok (.iconst 0, 1) := by decide +kernel
theorem jd_Tree_copyFrom_1 : decode mi_Tree_copyFrom.2.1 1 = .ok (.istore_n 2, 1) := by decide +kernel
theorem jd_Tree_copyFrom_2 : decode mi_Tree_copyFrom.2.1 2 = .ok (.iload_n 2, 1) := by decide +kernel
theorem jd_Tree_copyFrom_3 : decode mi_Tree_copyFrom.2.1 3 = .ok (.bipush 12, 2) := by decide +kernel
theorem jd_Tree_copyFrom_5 : decode mi_Tree_copyFrom.2.1 5 = .ok (.if_icmp .ge 23, 3) := by decide +kernel
theorem jd_Tree_copyFrom_8 : decode mi_Tree_copyFrom.2.1 8 = .ok (.aload_n 0, 1) := by decide +kernel
theorem jd_Tree_copyFrom_9 : decode mi_Tree_copyFrom.2.1 9 = .ok (.getfield 11, 3) := by decide +kernel
theorem jd_Tree_copyFrom_12 : decode mi_Tree_copyFrom.2.1 12 = .ok (.iload_n 2, 1) := by decide +kernel
theorem jd_Tree_copyFrom_13 : decode mi_Tree_copyFrom.2.1 13 = .ok (.aaload, 1) := by decide +kernel
theorem jd_Tree_copyFrom_14 : decode mi_Tree_copyFrom.2.1 14 = .ok (.aload_n 1, 1) := by decide +kernel
theorem jd_Tree_copyFrom_15 : decode mi_Tree_copyFrom.2.1 15 = .ok (.iload_n 2, 1) := by decide +kernel
theorem jd_Tree_copyFrom_16 : decode mi_Tree_copyFrom.2.1 16 = .ok (.invokevirtual 22, 3) := by decide +kernel
theorem jd_Tree_copyFrom_19 : decode mi_Tree_copyFrom.2.1 19 = .ok (.invokevirtual 37, 3) := by decide +kernel
theorem jd_Tree_copyFrom_22 : decode mi_Tree_copyFrom.2.1 22 = .ok (.iinc 2 1, 3) := by decide +kernel
theorem jd_Tree_copyFrom_25 : decode mi_Tree_copyFrom.2.1 25 = .ok (.goto (-23), 3) := by decide +kernel
theorem jd_Tree_copyFrom_28 : decode mi_Tree_copyFrom.2.1 28 = .ok (.return_, 1) := by decide +kernel
/-- a Tree's 28 cells: of each path the lines (N, G) and whether there is a file (Z) -/
def bt_At (o : jw_O) (μ : jw_Mem) (t : Nat) (N : Nat → Nat) (Z : Nat → Int32) (G : Nat → Nat → Int32) : Prop :=
  μ t = some (.inr (1, [.ref (t + 1), .ref (t + 2)])) ∧ (∃ F : Nat → Option Nat, μ (t + 1) = some (.inl (o.2.2.1 2, 12, .inr (.inr (.inr (.inr F))))) ∧ ∀ p, p < 12 → F p = some (t + 4 + 2 * p)) ∧ bc_At o μ (t + 2) 0 0 (fun _ => 0) ∧ (∀ p, p < 12 → bc_At o μ (t + 4 + 2 * p) (N p) (Z p) (G p)) ∧ ∀ p, p < 12 → N p ≤ 10 ∧ b01 (Z p)
theorem bt_At.fr {o : jw_O} {μ μ' : jw_Mem} {t b m : Nat} {N : Nat → Nat} {Z : Nat → Int32} {G : Nat → Nat → Int32} (h : bt_At o μ t N Z G) (f : jw_Fr μ μ' b m) (hd : t + 28 ≤ b ∨ b + m ≤ t) : bt_At o μ' t N Z G := by
  obtain ⟨h1, ⟨F, h2, h3⟩, h4, h5, h6⟩ := h
  exact ⟨(f _ (by omega)).trans h1, ⟨F, (f _ (by omega)).trans h2, h3⟩, h4.fr f (by omega), fun p hp => (h5 p hp).fr f (by omega), h6⟩
section
variable {o : jw_O} {μ : jw_Mem} {hs t : Nat} {N : Nat → Nat} {Z : Nat → Int32} {G : Nat → Nat → Int32}
theorem bt_init {x y : Value} (h0 : μ t = some (.inr (1, [x, y]))) : jw_Spec mi_Tree_init 2 27 181 o [.ref t] μ (t + 1) (fun v μ' s' => v = none ∧ s' = t + 28 ∧ bt_At o μ' t (fun _ => 0) (fun _ => 0) (fun _ _ => 0) ∧ jw_Fr μ μ' t 28) := by
  refine jw_spec (by decide +kernel) (Nat.le_of_ble_eq_true rfl) rfl (fun k hR hE => ?_)
  obtain ⟨μ0, hμ0⟩ : ∃ z, z = μ := ⟨_, rfl⟩
  have hF : jw_Fr μ0 μ t 28 := by rw [hμ0]; exact jw_Fr.rf
  refine jw_aload_n (pc' := 1) jd_Tree_init_0 rfl rfl rfl ?_
  refine jw_objInit (pc' := 4) hR jq_98 jd_Tree_init_1 (Nat.le_of_ble_eq_true rfl) (by omega) rfl ?_
  refine jw_aload_n (pc' := 5) jd_Tree_init_4 rfl rfl rfl ?_
  refine jw_bipush (pc' := 7) (v := nI 12) jd_Tree_init_5 (by decide +kernel) rfl ?_
  refine jw_newq (pc' := 10) (N := 12) (i := 2) (C := "Branchwork$Content") hR jq_99 (by decide +kernel) rfl jd_Tree_init_7 (by decide +kernel) (by decide +kernel) (by decide +kernel) (by omega) (by omega) rfl (fun μ h1 f9 => ?_)
  have h0 := (f9 _ (by omega)).trans h0
  have hF := jw_Fr.step hF f9 (by omega)
  refine jw_putF (pc' := 13) (kf := 0) (ty := (.array (.object "Branchwork$Content"))) (fs' := [_, _]) jc_Tree (by decide) jq_117 jd_Tree_init_10 rfl rfl rfl (by decide +kernel) (by assumption) rfl rfl rfl (Nat.le_of_ble_eq_true rfl) rfl (fun μ h0 f9 => ?_)
  have h1 := (f9 _ (by omega)).trans h1
  have hF := jw_Fr.step hF f9 (by omega)
  refine jw_aload_n (pc' := 14) jd_Tree_init_13 rfl rfl rfl ?_
  refine jw_new (pc' := 17) (fs := [.null, .int 0, .int 0]) hR jc_Content jq_99 jq_101 jq_57 jd_Tree_init_14 (by decide +kernel) (by omega) (by omega) rfl (fun μ hc f9 => ?_)
  have h0 := (f9 _ (by omega)).trans h0
  have h1 := (f9 _ (by omega)).trans h1
  have hF := jw_Fr.step hF f9 (by omega)
  refine jw_dup (pc' := 18) jd_Tree_init_17 rfl rfl ?_
  refine jw_callIN (pc' := 21) hR (bc_init hc) jm_Content_init jn_Tree_17 jd_Tree_init_18 rfl rfl (Nat.le_of_ble_eq_true rfl) (by omega) (by decide) (by omega) (by omega) rfl (fun v μ2 s2 q hle => ?_)
  obtain ⟨rfl, rfl, hC, f9⟩ := q
  have hF := hF.trans f9 (by omega) (by omega)
  have h0 := (f9 _ (by omega)).trans h0
  have h1 := (f9 _ (by omega)).trans h1
  refine jw_putF (pc' := 24) (kf := 1) (ty := (.object "Branchwork$Content")) (fs' := [_, _]) jc_Tree (by decide) jq_118 jd_Tree_init_21 rfl rfl rfl (by decide +kernel) (by assumption) rfl rfl rfl (Nat.le_of_ble_eq_true rfl) rfl (fun μ h0 f9 => ?_)
  have h1 := (f9 _ (by omega)).trans h1
  have hF := jw_Fr.step hF f9 (by omega)
  have hC := hC.fr (μ' := μ) (b := t) (m := 1) (fun q hq => f9 q (by omega)) (by omega)
  refine jw_iconst (pc' := 25) (v := nI 0) jd_Tree_init_24 (by decide +kernel) rfl ?_
  refine jw_istore_n (pc' := 26) (lc' := [(0, _), (1, _)]) jd_Tree_init_25 rfl (Nat.le_of_ble_eq_true rfl) ⟨rfl, rfl, trivial⟩ rfl ?_
  have loop : ∀ d i : Nat, i + d = 12 → ∀ (μ : jw_Mem), jw_Fr μ0 μ t 28 → μ t = some (.inr (1, [.ref (t + 1), .ref (t + 1 + 1)])) → (∃ F : Nat → Option Nat, μ (t + 1) = some (.inl (o.2.2.1 2, 12, .inr (.inr (.inr (.inr F))))) ∧ ∀ p, p < i → F p = some (t + 4 + 2 * p)) → bc_At o μ (t + 1 + 1) 0 0 (fun _ => 0) → (∀ p, p < i → bc_At o μ (t + 4 + 2 * p) 0 0 (fun _ => 0)) →
      jw_X mi_Tree_init o k (3 + 2 * i) (25 + 13 * i) 26 [(0, .ref t), (1, .int (nI i))] [] μ (t + 4 + 2 * i) := by
    intro d
    induction d with
    | zero =>
      intro i hi μ hF h0 h1 hC hA
      obtain rfl : i = 12 := by omega
      obtain ⟨F, h1, hFp⟩ := h1
      refine jw_iload_n (pc' := 27) jd_Tree_init_26 rfl rfl rfl ?_
      refine jw_bipush (pc' := 29) (v := nI 12) jd_Tree_init_27 (by decide +kernel) rfl ?_
      refine jw_icmp_ge (tgt := 51) (pc' := 32) jd_Tree_init_29 (by decide) rfl (fun c => ?_) (fun c => ?_)
      · refine jw_vret hE jd_Tree_init_51 rfl (by omega) (by omega) ?_
        exact ⟨rfl, rfl, ⟨h0, ⟨F, h1, hFp⟩, hC, hA, fun p _ => ⟨Nat.zero_le _, Or.inl rfl⟩⟩, hμ0 ▸ hF⟩
      · exact absurd (nI_le (by omega) (by omega)) c
    | succ d ih =>
      intro i hi μ hF h0 h1 hC hA
      obtain ⟨F, h1, hFp⟩ := h1
      obtain ⟨μ1, hμ1⟩ : ∃ z, z = μ := ⟨_, rfl⟩
      have hG : jw_Fr μ1 μ (t + 4 + 2 * i) 2 := by rw [hμ1]; exact jw_Fr.rf
      rw [← hμ1] at hC hA
      refine jw_iload_n (pc' := 27) jd_Tree_init_26 rfl rfl rfl ?_
      refine jw_bipush (pc' := 29) (v := nI 12) jd_Tree_init_27 (by decide +kernel) rfl ?_
      refine jw_icmp_ge (tgt := 51) (pc' := 32) jd_Tree_init_29 (by decide) rfl (fun c => ?_) (fun c => ?_)
      · exact absurd ((nI_leI (a := 12) (by omega) (by omega)).mp c) (by omega)
      refine jw_aload_n (pc' := 33) jd_Tree_init_32 rfl rfl rfl ?_
      refine jw_get (pc' := 36) (kf := 0) jc_Tree (by decide) jq_117 jd_Tree_init_33 (by assumption) rfl rfl ?_
      refine jw_iload_n (pc' := 37) jd_Tree_init_36 rfl rfl rfl ?_
      refine jw_new (pc' := 40) (fs := [.null, .int 0, .int 0]) hR jc_Content jq_99 jq_101 jq_57 jd_Tree_init_37 (by decide +kernel) (by omega) (by omega) rfl (fun μ hc f9 => ?_)
      have h0 := (f9 _ (by omega)).trans h0
      have h1 := (f9 _ (by omega)).trans h1
      have hF := jw_Fr.step hF f9 (by omega)
      refine jw_dup (pc' := 41) jd_Tree_init_40 rfl rfl ?_
      have hG := jw_Fr.step hG f9 (by omega)
      refine jw_callIN (pc' := 44) hR (bc_init hc) jm_Content_init jn_Tree_17 jd_Tree_init_41 rfl rfl (Nat.le_of_ble_eq_true rfl) (by omega) (by decide) (by omega) (by omega) rfl (fun v μ2 s2 q hle => ?_)
      obtain ⟨rfl, rfl, hD, f9⟩ := q
      have hF := hF.trans f9 (by omega) (by omega)
      have hG := hG.trans f9 (by omega) (by omega)
      have h0 := (f9 _ (by omega)).trans h0
      have h1 := (f9 _ (by omega)).trans h1
      have hc := hD.1
      refine jw_aast (pc' := 45) (i := 2) (ci := 0) (r := ("Branchwork$Content", F_Content, 3)) jd_Tree_init_44 (by assumption) rfl hc jc_Content (vp_in_nI (by omega) (by omega)) rfl (fun μ h1 f9 => ?_)
      have hF := jw_Fr.step hF f9 (by omega)
      have h0 := (f9 _ (by omega)).trans h0
      refine jw_iinc (pc' := 48) (lc' := [(0, _), (1, _)]) jd_Tree_init_45 rfl (nI_1 _) (Nat.le_of_ble_eq_true rfl) ⟨rfl, rfl, trivial⟩ rfl ?_
      refine jw_goto (tgt := 26) jd_Tree_init_48 (by decide) ?_
      refine jw_cnt (kc' := 3 + 2 * (i + 1)) (ks' := 25 + 13 * (i + 1)) (by omega) (by omega) ?_
      refine jw_hs (hs' := t + 4 + 2 * (i + 1)) (by omega) ?_
      have hD1 := hD.fr (jw_Fr.o f9) (by omega)
      refine ih (i + 1) (by omega) _ hF h0 ⟨_, h1, fun p hp => ?_⟩ ((hC.fr hG (by omega)).fr (b := t + 1) (m := 1) (fun q hq => f9 q (by omega)) (by omega)) (fun p hp => ?_)
      · rw [nI_clamp (by omega)]
        by_cases e : p = i
        · rw [e, va_up_self]
        · rw [va_up_ne _ _ e]; exact hFp p (by omega)
      · by_cases e : p = i
        · rw [e]; exact hD1
        · exact ((hA p (by omega)).fr hG (by omega)).fr (b := t + 1) (m := 1) (fun q hq => f9 q (by omega)) (by omega)
  exact jw_hs (hs' := t + 4 + 2 * 0) (by omega) (loop 12 0 (by omega) _ hF h0 ⟨_, h1, fun p hp => absurd hp (by omega)⟩ hC (fun p hp => absurd hp (by omega)))
theorem bt_fileAt {p : Nat} (h : bt_At o μ t N Z G) (hp : p < 12) : jw_Ro mi_Tree_fileAt 0 o [.ref t, .int (nI p)] μ hs (some (.ref (t + 4 + 2 * p))) := by
  refine jw_ro (by decide +kernel) (Nat.le_of_ble_eq_true rfl) rfl (fun k hR hE => ?_)
  obtain ⟨h0, ⟨F, h1, hFp⟩, -⟩ := h
  refine jw_iload_n (pc' := 1) jd_Tree_fileAt_0 rfl rfl rfl ?_
  refine jw_if_lt (tgt := 19) (pc' := 4) jd_Tree_fileAt_1 (by decide) rfl (fun c => ?_) (fun c => ?_)
  · exact absurd c (nI_pos (by omega))
  refine jw_iload_n (pc' := 5) jd_Tree_fileAt_4 rfl rfl rfl ?_
  refine jw_bipush (pc' := 7) (v := nI 12) jd_Tree_fileAt_5 (by decide +kernel) rfl ?_
  refine jw_icmp_ge (tgt := 19) (pc' := 10) jd_Tree_fileAt_7 (by decide) rfl (fun c => ?_) (fun c => ?_)
  · exact absurd ((nI_leI (a := 12) (by omega) (by omega)).mp c) (by omega)
  refine jw_aload_n (pc' := 11) jd_Tree_fileAt_10 rfl rfl rfl ?_
  refine jw_get (pc' := 14) (kf := 0) jc_Tree (by decide) jq_117 jd_Tree_fileAt_11 (by assumption) rfl rfl ?_
  refine jw_iload_n (pc' := 15) jd_Tree_fileAt_14 rfl rfl rfl ?_
  refine jw_aald (pc' := 16) (i := 2) jd_Tree_fileAt_15 (by assumption) rfl (vp_in_nI (by omega) (by omega)) (jw_rf (hFp p hp) (by omega)) rfl ?_
  refine jw_goto (tgt := 23) jd_Tree_fileAt_16 (by decide) ?_
  refine jw_aret hE jd_Tree_fileAt_23 rfl (by first | exact Or.inl ⟨_, rfl⟩ | exact Or.inr ⟨_, rfl⟩) (by first | exact Or.inr ⟨_, rfl⟩ | exact Or.inl rfl) (by omega) (by omega) ?_
  exact ⟨rfl, rfl, rfl⟩
theorem bt_fileOut {x : Int32} (h : bt_At o μ t N Z G) (hx : x < 0 ∨ nI 12 ≤ x) : jw_Ro mi_Tree_fileAt 0 o [.ref t, .int x] μ hs (some (.ref (t + 2))) := by
  refine jw_ro (by decide +kernel) (Nat.le_of_ble_eq_true rfl) rfl (fun k hR hE => ?_)
  obtain ⟨h0, ⟨F, h1, hFp⟩, -⟩ := h
  refine jw_iload_n (pc' := 1) jd_Tree_fileAt_0 rfl rfl rfl ?_
  refine jw_if_lt (tgt := 19) (pc' := 4) jd_Tree_fileAt_1 (by decide) rfl (fun c => ?_) (fun c => ?_)
  · refine jw_aload_n (pc' := 20) jd_Tree_fileAt_19 rfl rfl rfl ?_
    refine jw_get (pc' := 23) (kf := 1) jc_Tree (by decide) jq_118 jd_Tree_fileAt_20 (by assumption) rfl rfl ?_
    refine jw_aret hE jd_Tree_fileAt_23 rfl (by first | exact Or.inl ⟨_, rfl⟩ | exact Or.inr ⟨_, rfl⟩) (by first | exact Or.inr ⟨_, rfl⟩ | exact Or.inl rfl) (by omega) (by omega) ?_
    exact ⟨rfl, rfl, rfl⟩
  refine jw_iload_n (pc' := 5) jd_Tree_fileAt_4 rfl rfl rfl ?_
  refine jw_bipush (pc' := 7) (v := nI 12) jd_Tree_fileAt_5 (by decide +kernel) rfl ?_
  refine jw_icmp_ge (tgt := 19) (pc' := 10) jd_Tree_fileAt_7 (by decide) rfl (fun c2 => ?_) (fun c2 => ?_)
  · refine jw_aload_n (pc' := 20) jd_Tree_fileAt_19 rfl rfl rfl ?_
    refine jw_get (pc' := 23) (kf := 1) jc_Tree (by decide) jq_118 jd_Tree_fileAt_20 (by assumption) rfl rfl ?_
    refine jw_aret hE jd_Tree_fileAt_23 rfl (by first | exact Or.inl ⟨_, rfl⟩ | exact Or.inr ⟨_, rfl⟩) (by first | exact Or.inr ⟨_, rfl⟩ | exact Or.inl rfl) (by omega) (by omega) ?_
    exact ⟨rfl, rfl, rfl⟩
  · exact absurd hx (fun z => z.elim c c2)
theorem bt_has {p : Nat} (h : bt_At o μ t N Z G) (hp : p < 12) : jw_Ro mi_Tree_has 1 o [.ref t, .int (nI p)] μ hs (some (.int (Z p))) := by
  refine jw_ro (by decide +kernel) (Nat.le_of_ble_eq_true rfl) rfl (fun k hR hE => ?_)
  have hc := h.2.2.2.1 p hp
  have hz := (h.2.2.2.2 p hp).2
  have h0 := h.1
  have hc0 := hc.1
  refine jw_aload_n (pc' := 1) jd_Tree_has_0 rfl rfl rfl ?_
  refine jw_iload_n (pc' := 2) jd_Tree_has_1 rfl rfl rfl ?_
  refine jw_callV0 (pc' := 5) hR (bt_fileAt h hp) jm_Tree_fileAt jq_408 jc_Tree jd_Tree_has_2 (by assumption) rfl rfl (Nat.le_of_ble_eq_true rfl) (by omega) (by decide) (by omega) (by omega) rfl rfl ?_
  refine jw_callV0 (pc' := 8) hR (bc_exists hc hz) jm_Content_exists jq_409 jc_Content jd_Tree_has_5 (by assumption) rfl rfl (Nat.le_of_ble_eq_true rfl) (by omega) (by decide) (by omega) (by omega) rfl rfl ?_
  exact jw_zret hE jd_Tree_has_8 rfl hz.nz (by omega) (by omega) ⟨rfl, rfl, rfl⟩
theorem bt_hasOut {x : Int32} (h : bt_At o μ t N Z G) (hx : x < 0 ∨ nI 12 ≤ x) : jw_Ro mi_Tree_has 1 o [.ref t, .int x] μ hs (some (.int 0)) := by
  refine jw_ro (by decide +kernel) (Nat.le_of_ble_eq_true rfl) rfl (fun k hR hE => ?_)
  have hc := h.2.2.1
  have h0 := h.1
  have hc0 := hc.1
  refine jw_aload_n (pc' := 1) jd_Tree_has_0 rfl rfl rfl ?_
  refine jw_iload_n (pc' := 2) jd_Tree_has_1 rfl rfl rfl ?_
  refine jw_callV0 (pc' := 5) hR (bt_fileOut h hx) jm_Tree_fileAt jq_408 jc_Tree jd_Tree_has_2 (by assumption) rfl rfl (Nat.le_of_ble_eq_true rfl) (by omega) (by decide) (by omega) (by omega) rfl rfl ?_
  refine jw_callV0 (pc' := 8) hR (bc_exists hc (Or.inl rfl)) jm_Content_exists jq_409 jc_Content jd_Tree_has_5 (by assumption) rfl rfl (Nat.le_of_ble_eq_true rfl) (by omega) (by decide) (by omega) (by omega) rfl rfl ?_
  exact jw_zret hE jd_Tree_has_8 rfl (by decide) (by omega) (by omega) ⟨rfl, rfl, rfl⟩
/-- how many of the first i paths have a file -/
def bt_cnt (Z : Nat → Int32) : Nat → Nat
  | 0 => 0
  | i + 1 => bt_cnt Z i + if Z i = 0 then 0 else 1
theorem bt_cnt_le (Z : Nat → Int32) : ∀ i, bt_cnt Z i ≤ i
  | 0 => Nat.le_refl _
  | i + 1 => by
    have h := bt_cnt_le Z i
    unfold bt_cnt
    split <;> omega
theorem bt_countFiles (h : bt_At o μ t N Z G) : jw_Ro mi_Tree_countFiles 2 o [.ref t] μ hs (some (.int (nI (bt_cnt Z 12)))) := by
  refine jw_ro (by decide +kernel) (Nat.le_of_ble_eq_true rfl) rfl (fun k hR hE => ?_)
  have h0 := h.1
  refine jw_iconst (pc' := 1) (v := nI 0) jd_Tree_countFiles_0 (by decide +kernel) rfl ?_
  refine jw_istore_n (pc' := 2) (lc' := [(0, _), (1, _)]) jd_Tree_countFiles_1 rfl (Nat.le_of_ble_eq_true rfl) ⟨rfl, rfl, trivial⟩ rfl ?_
  refine jw_iconst (pc' := 3) (v := nI 0) jd_Tree_countFiles_2 (by decide +kernel) rfl ?_
  refine jw_istore_n (pc' := 4) (lc' := [(0, _), (1, _), (2, _)]) jd_Tree_countFiles_3 rfl (Nat.le_of_ble_eq_true rfl) ⟨rfl, rfl, rfl, trivial⟩ rfl ?_
  have loop : ∀ d i : Nat, i + d = 12 → jw_X mi_Tree_countFiles o k 0 0 4 [(0, .ref t), (1, .int (nI (bt_cnt Z i))), (2, .int (nI i))] [] μ hs := by
    intro d
    induction d with
    | zero =>
      intro i hi
      obtain rfl : i = 12 := by omega
      refine jw_iload_n (pc' := 5) jd_Tree_countFiles_4 rfl rfl rfl ?_
      refine jw_bipush (pc' := 7) (v := nI 12) jd_Tree_countFiles_5 (by decide +kernel) rfl ?_
      refine jw_icmp_ge (tgt := 27) (pc' := 10) jd_Tree_countFiles_7 (by decide) rfl (fun c => ?_) (fun c => ?_)
      · refine jw_iload_n (pc' := 28) jd_Tree_countFiles_27 rfl rfl rfl ?_
        refine jw_iret hE jd_Tree_countFiles_28 rfl (by omega) (by omega) ?_
        exact ⟨rfl, rfl, rfl⟩
      · exact absurd (nI_le (by omega) (by omega)) c
    | succ d ih =>
      intro i hi
      have hb := bt_cnt_le Z i
      refine jw_iload_n (pc' := 5) jd_Tree_countFiles_4 rfl rfl rfl ?_
      refine jw_bipush (pc' := 7) (v := nI 12) jd_Tree_countFiles_5 (by decide +kernel) rfl ?_
      refine jw_icmp_ge (tgt := 27) (pc' := 10) jd_Tree_countFiles_7 (by decide) rfl (fun c => ?_) (fun c => ?_)
      · exact absurd ((nI_leI (a := 12) (by omega) (by omega)).mp c) (by omega)
      refine jw_aload_n (pc' := 11) jd_Tree_countFiles_10 rfl rfl rfl ?_
      refine jw_iload_n (pc' := 12) jd_Tree_countFiles_11 rfl rfl rfl ?_
      refine jw_callV0 (pc' := 15) hR (bt_has h (by omega)) jm_Tree_has jq_404 jc_Tree jd_Tree_countFiles_12 (by assumption) rfl rfl (Nat.le_of_ble_eq_true rfl) (by omega) (by decide) (by omega) (by omega) rfl rfl ?_
      refine jw_if_eq (tgt := 21) (pc' := 18) jd_Tree_countFiles_15 (by decide) rfl (fun c2 => ?_) (fun c2 => ?_)
      · refine jw_iinc (pc' := 24) (lc' := [(0, _), (1, _), (2, _)]) jd_Tree_countFiles_21 rfl (nI_1 _) (Nat.le_of_ble_eq_true rfl) ⟨rfl, rfl, rfl, trivial⟩ rfl ?_
        refine jw_goto (tgt := 4) jd_Tree_countFiles_24 (by decide) ?_
        have e : bt_cnt Z (i + 1) = bt_cnt Z i := by show bt_cnt Z i + _ = _; rw [if_pos c2]; rfl
        have := ih (i + 1) (by omega)
        rw [e] at this
        exact this
      · refine jw_iinc (pc' := 21) (lc' := [(0, _), (1, _), (2, _)]) jd_Tree_countFiles_18 rfl (nI_1 _) (Nat.le_of_ble_eq_true rfl) ⟨rfl, rfl, rfl, trivial⟩ rfl ?_
        refine jw_iinc (pc' := 24) (lc' := [(0, _), (1, _), (2, _)]) jd_Tree_countFiles_21 rfl (nI_1 _) (Nat.le_of_ble_eq_true rfl) ⟨rfl, rfl, rfl, trivial⟩ rfl ?_
        refine jw_goto (tgt := 4) jd_Tree_countFiles_24 (by decide) ?_
        have e : bt_cnt Z (i + 1) = bt_cnt Z i + 1 := by show bt_cnt Z i + _ = _; rw [if_neg c2]
        have := ih (i + 1) (by omega)
        rw [e] at this
        exact this
  exact loop 12 0 (by omega)
/-- whether two trees are the same -/
def bt_same (N M : Nat → Nat) (Z Y : Nat → Int32) (G K : Nat → Nat → Int32) : Prop := ∀ p, p < 12 → bc_same (N p) (M p) (Z p) (Y p) (G p) (K p)
theorem bt_sameAs {u : Nat} {M : Nat → Nat} {Y : Nat → Int32} {K : Nat → Nat → Int32} (h : bt_At o μ t N Z G) (h2 : bt_At o μ u M Y K) {r : Int32} (hr : (r = 1 ∧ bt_same N M Z Y G K) ∨ (r = 0 ∧ ¬ bt_same N M Z Y G K)) : jw_Ro mi_Tree_sameAs 2 o [.ref t, .ref u] μ hs (some (.int r)) := by
  refine jw_ro (by decide +kernel) (Nat.le_of_ble_eq_true rfl) rfl (fun k hR hE => ?_)
  have h0 := h.1
  have h3 := h2.1
  obtain ⟨F, h1, hFp⟩ := h.2.1
  have hno : ¬ bt_same N M Z Y G K → r = 0 := fun z => hr.elim (fun y => absurd y.2 z) (fun y => y.1)
  have hyes : bt_same N M Z Y G K → r = 1 := fun z => hr.elim (fun y => y.1) (fun y => absurd z y.2)
  refine jw_iconst (pc' := 1) (v := nI 0) jd_Tree_sameAs_0 (by decide +kernel) rfl ?_
  refine jw_istore_n (pc' := 2) (lc' := [(0, _), (1, _), (2, _)]) jd_Tree_sameAs_1 rfl (Nat.le_of_ble_eq_true rfl) ⟨rfl, rfl, rfl, trivial⟩ rfl ?_
  have loop : ∀ d i : Nat, i + d = 12 → (∀ p, p < i → bc_same (N p) (M p) (Z p) (Y p) (G p) (K p)) → jw_X mi_Tree_sameAs o k 0 0 2 [(0, .ref t), (1, .ref u), (2, .int (nI i))] [] μ hs := by
    intro d
    induction d with
    | zero =>
      intro i hi hs1
      refine jw_iload_n (pc' := 3) jd_Tree_sameAs_2 rfl rfl rfl ?_
      refine jw_bipush (pc' := 5) (v := nI 12) jd_Tree_sameAs_3 (by decide +kernel) rfl ?_
      refine jw_icmp_ge (tgt := 33) (pc' := 8) jd_Tree_sameAs_5 (by decide) rfl (fun c => ?_) (fun c => ?_)
      · refine jw_iconst (pc' := 34) (v := nI 1) jd_Tree_sameAs_33 (by decide +kernel) rfl ?_
        refine jw_zret hE jd_Tree_sameAs_34 rfl (by first | exact vp_nar_int _ | decide +kernel) (by omega) (by omega) ?_
        have e := hyes (fun p hp => hs1 p (by omega))
        subst e
        exact ⟨rfl, rfl, rfl⟩
      · exact absurd (nI_le (by omega) (by omega)) c
    | succ d ih =>
      intro i hi hs1
      have ca := h.2.2.2.1 i (by omega)
      have cb := h2.2.2.2.1 i (by omega)
      have na := h.2.2.2.2 i (by omega)
      have nb := h2.2.2.2.2 i (by omega)
      have ca0 := ca.1
      refine jw_iload_n (pc' := 3) jd_Tree_sameAs_2 rfl rfl rfl ?_
      refine jw_bipush (pc' := 5) (v := nI 12) jd_Tree_sameAs_3 (by decide +kernel) rfl ?_
      refine jw_icmp_ge (tgt := 33) (pc' := 8) jd_Tree_sameAs_5 (by decide) rfl (fun c => ?_) (fun c => ?_)
      · exact absurd ((nI_leI (a := 12) (by omega) (by omega)).mp c) (by omega)
      refine jw_aload_n (pc' := 9) jd_Tree_sameAs_8 rfl rfl rfl ?_
      refine jw_get (pc' := 12) (kf := 0) jc_Tree (by decide) jq_117 jd_Tree_sameAs_9 (by assumption) rfl rfl ?_
      refine jw_iload_n (pc' := 13) jd_Tree_sameAs_12 rfl rfl rfl ?_
      refine jw_aald (pc' := 14) (i := 2) jd_Tree_sameAs_13 (by assumption) rfl (vp_in_nI (by omega) (by omega)) (jw_rf (hFp i (by omega)) (by omega)) rfl ?_
      refine jw_aload_n (pc' := 15) jd_Tree_sameAs_14 rfl rfl rfl ?_
      refine jw_iload_n (pc' := 16) jd_Tree_sameAs_15 rfl rfl rfl ?_
      refine jw_callV0 (pc' := 19) hR (bt_fileAt h2 (by omega)) jm_Tree_fileAt jq_408 jc_Tree jd_Tree_sameAs_16 (by assumption) rfl rfl (Nat.le_of_ble_eq_true rfl) (by omega) (by decide) (by omega) (by omega) rfl rfl ?_
      by_cases hsm : bc_same (N i) (M i) (Z i) (Y i) (G i) (K i)
      · refine jw_callV0 (pc' := 22) hR (bc_sameAs ca na.2 na.1 cb nb.2 nb.1 (Or.inl ⟨rfl, hsm⟩)) jm_Content_sameAs jq_708 jc_Content jd_Tree_sameAs_19 (by assumption) rfl rfl (Nat.le_of_ble_eq_true rfl) (by omega) (by decide) (by omega) (by omega) rfl rfl ?_
        refine jw_if_ne (tgt := 27) (pc' := 25) jd_Tree_sameAs_22 (by decide) rfl (fun c2 => ?_) (fun c2 => ?_)
        · refine jw_iinc (pc' := 30) (lc' := [(0, _), (1, _), (2, _)]) jd_Tree_sameAs_27 rfl (nI_1 _) (Nat.le_of_ble_eq_true rfl) ⟨rfl, rfl, rfl, trivial⟩ rfl ?_
          refine jw_goto (tgt := 2) jd_Tree_sameAs_30 (by decide) ?_
          exact ih (i + 1) (by omega) (fun p hp => by
            rcases Nat.lt_or_ge p i with z | z
            · exact hs1 p z
            · rw [show p = i by omega]; exact hsm)
        · exact absurd c2 (by decide)
      · refine jw_callV0 (pc' := 22) hR (bc_sameAs ca na.2 na.1 cb nb.2 nb.1 (Or.inr ⟨rfl, hsm⟩)) jm_Content_sameAs jq_708 jc_Content jd_Tree_sameAs_19 (by assumption) rfl rfl (Nat.le_of_ble_eq_true rfl) (by omega) (by decide) (by omega) (by omega) rfl rfl ?_
        refine jw_if_ne (tgt := 27) (pc' := 25) jd_Tree_sameAs_22 (by decide) rfl (fun c2 => ?_) (fun c2 => ?_)
        · exact absurd rfl c2
        · refine jw_iconst (pc' := 26) (v := nI 0) jd_Tree_sameAs_25 (by decide +kernel) rfl ?_
          refine jw_zret hE jd_Tree_sameAs_26 rfl (by first | exact vp_nar_int _ | decide +kernel) (by omega) (by omega) ?_
          have e := hno (fun z => hsm (z i (by omega)))
          subst e
          exact ⟨rfl, rfl, rfl⟩
  exact loop 12 0 (by omega) (fun p hp => absurd hp (by omega))
end
