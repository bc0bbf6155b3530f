theorem jd_Tree_fileAt_0 : decode mi_Tree_fileAt.2.1 0 = .ok (.iload_n 1, 1) := by decide +kernel
theorem jd_Tree_fileAt_1 : decode mi_Tree_fileAt.2.1 1 = .ok (.ifCond .lt 18, 3) := by decide +kernel
theorem jd_Tree_fileAt_4 : decode mi_Tree_fileAt.2.1 4 = .ok (.iload_n 1, 1) := by decide +kernel
theorem jd_Tree_fileAt_5 : decode mi_Tree_fileAt.2.1 5 = .ok (.bipush 12, 2) := by decide +kernel
theorem jd_Tree_fileAt_7 : decode mi_Tree_fileAt.2.1 7 = .ok (.if_icmp .ge 12, 3) := by decide +kernel
theorem jd_Tree_fileAt_10 : decode mi_Tree_fileAt.2.1 10 = .ok (.aload_n 0, 1) := by decide +kernel
theorem jd_Tree_fileAt_11 : decode mi_Tree_fileAt.2.1 11 = .ok (.getfield 11, 3) := by decide +kernel
theorem jd_Tree_fileAt_14 : decode mi_Tree_fileAt.2.1 14 = .ok (.iload_n 1, 1) := by decide +kernel
theorem jd_Tree_fileAt_15 : decode mi_Tree_fileAt.2.1 15 = .ok (.aaload, 1) := by decide +kernel
theorem jd_Tree_fileAt_16 : decode mi_Tree_fileAt.2.1 16 = .ok (.goto 7, 3) := by decide +kernel
theorem jd_Tree_fileAt_19 : decode mi_Tree_fileAt.2.1 19 = .ok (.aload_n 0, 1) := by decide +kernel
theorem jd_Tree_fileAt_20 : decode mi_Tree_fileAt.2.1 20 = .ok (.getfield 18, 3) := by decide +kernel
theorem jd_Tree_fileAt_23 : decode mi_Tree_fileAt.2.1 23 = .ok (.areturn, 1) := by decide +kernel
theorem jd_Tree_has_0 : decode mi_Tree_has.2.1 0 = .ok (.aload_n 0, 1) := by decide +kernel
theorem jd_Tree_has_1 : decode mi_Tree_has.2.1 1 = .ok (.iload_n 1, 1) := by decide +kernel
theorem jd_Tree_has_2 : decode mi_Tree_has.2.1 2 = .ok (.invokevirtual 22, 3) := by decide +kernel
theorem jd_Tree_has_5 : decode mi_Tree_has.2.1 5 = .ok (.invokevirtual 26, 3) := by decide +kernel
theorem jd_Tree_has_8 : decode mi_Tree_has.2.1 8 = .ok (.ireturn, 1) := by decide +kernel
theorem jd_Tree_countFiles_0 : decode mi_Tree_countFiles.2.1 0 = .ok (.iconst 0, 1) := by decide +kernel
theorem jd_Tree_countFiles_1 : decode mi_Tree_countFiles.2.1 1 = .ok (.istore_n 1, 1) := by decide +kernel
theorem jd_Tree_countFiles_2 : decode mi_Tree_countFiles.2.1 2 = .ok (.iconst 0, 1) := by decide +kernel
theorem jd_Tree_countFiles_3 : decode mi_Tree_countFiles.2.1 3 = .ok (.istore_n 2, 1) := by decide +kernel
theorem jd_Tree_countFiles_4 : decode mi_Tree_countFiles.2.1 4 = .ok (.iload_n 2, 1) := by decide +kernel
theorem jd_Tree_countFiles_5 : decode mi_Tree_countFiles.2.1 5 = .ok (.bipush 12, 2) := by decide +kernel
theorem jd_Tree_countFiles_7 : decode mi_Tree_countFiles.2.1 7 = .ok (.if_icmp .ge 20, 3) := by decide +kernel
theorem jd_Tree_countFiles_10 : decode mi_Tree_countFiles.2.1 10 = .ok (.aload_n 0, 1) := by decide +kernel
theorem jd_Tree_countFiles_11 : decode mi_Tree_countFiles.2.1 11 = .ok (.iload_n 2, 1) := by decide +kernel
theorem jd_Tree_countFiles_12 : decode mi_Tree_countFiles.2.1 12 = .ok (.invokevirtual 30, 3) := by decide +kernel
theorem jd_Tree_countFiles_15 : decode mi_Tree_countFiles.2.1 15 = .ok (.ifCond .eq 6, 3) := by decide +kernel
theorem jd_Tree_countFiles_18 : decode mi_Tree_countFiles.2.1 18 = .ok (.iinc 1 1, 3) := by decide +kernel
theorem jd_Tree_countFiles_21 : decode mi_Tree_countFiles.2.1 21 = .ok (.iinc 2 1, 3) := by decide +kernel
theorem jd_Tree_countFiles_24 : decode mi_Tree_countFiles.2.1 24 = .ok (.goto (-20), 3) := by decide +kernel
theorem jd_Tree_countFiles_27 : decode mi_Tree_countFiles.2.1 27 = .ok (.iload_n 1, 1) := by decide +kernel
theorem jd_Tree_countFiles_28 : decode mi_Tree_countFiles.2.1 28 = .ok (.ireturn, 1) := by decide +kernel
theorem jd_Tree_clear_0 : decode mi_Tree_clear.2.1 0 = .ok (.iconst 0, 1) := by decide +kernel
theorem jd_Tree_clear_1 : decode mi_Tree_clear.2.1 1 = .ok (.istore_n 1, 1) := by decide +kernel
theorem jd_Tree_clear_2 : decode mi_Tree_clear.2.1 2 = .ok (.iload_n 1, 1) := by decide +kernel
theorem jd_Tree_clear_3 : decode mi_Tree_clear.2.1 3 = .ok (.bipush 12, 2) := by decide +kernel
theorem jd_Tree_clear_5 : decode mi_Tree_clear.2.1 5 = .ok (.if_icmp .ge 18, 3) := by decide +kernel
theorem jd_Tree_clear_8 : decode mi_Tree_clear.2.1 8 = .ok (.aload_n 0, 1) := by decide +kernel
theorem jd_Tree_clear_9 : decode mi_Tree_clear.2.1 9 = .ok (.getfield 11, 3) := by decide +kernel
theorem jd_Tree_clear_12 : decode mi_Tree_clear.2.1 12 = .ok (.iload_n 1, 1) := by decide +kernel
theorem jd_Tree_clear_13 : decode mi_Tree_clear.2.1 13 = .ok (.aaload, 1) := by decide +kernel
theorem jd_Tree_clear_14 : decode mi_Tree_clear.2.1 14 = .ok (.invokevirtual 34, 3) := by decide +kernel
theorem jd_Tree_clear_17 : decode mi_Tree_clear.2.1 17 = .ok (.iinc 1 1, 3) := by decide +kernel
theorem jd_Tree_clear_20 : decode mi_Tree_clear.2.1 20 = .ok (.goto (-18), 3) := by decide +kernel
theorem jd_Tree_clear_23 : decode mi_Tree_clear.2.1 23 = .ok (.return_, 1) := by decide +kernel
theorem jd_Tree_copyFrom_0 : decode mi_Tree_copyFrom.2.1 0 = .ok (.iconst 0, 1) := by decide +kernel
theorem jd_Tree_copyFrom_1 : decode mi_Tree_copyFrom.2.1 1 = .ok (.istore_n 2, 1) := by decide +kernel
theorem jd_Tree_copyFrom_2 : decode mi_Tree_copyFrom.2.1 2 = .ok (.iload_n 2, 1) := by decide +kernel
theorem jd_Tree_copyFrom_3 : decode mi_Tree_copyFrom.2.1 3 = .ok (.bipush 12, 2) := by decide +kernel
theorem jd_Tree_copyFrom_5 : decode mi_Tree_copyFrom.2.1 5 = .ok (.if_icmp .ge 23, 3) := by decide +kernel
theorem jd_Tree_copyFrom_8 : decode mi_Tree_copyFrom.2.1 8 = .ok (.aload_n 0, 1) := by decide +kernel
theorem jd_Tree_copyFrom_9 : decode mi_Tree_copyFrom.2.1 9 = .ok (.getfield 11, 3) := by decide +kernel
theorem jd_Tree_copyFrom_12 : decode mi_Tree_copyFrom.2.1 12 = .ok (.iload_n 2, 1) := by decide +kernel
theorem jd_Tree_copyFrom_13 : decode mi_Tree_copyFrom.2.1 13 = .ok (.aaload, 1) := by decide +kernel
theorem jd_Tree_copyFrom_14 : decode mi_Tree_copyFrom.2.1 14 = .ok (.aload_n 1, 1) := by decide +kernel
theorem jd_Tree_copyFrom_15 : decode mi_Tree_copyFrom.2.1 15 = .ok (.iload_n 2, 1) := by decide +kernel
theorem jd_Tree_copyFrom_16 : decode mi_Tree_copyFrom.2.1 16 = .ok (.invokevirtual 22, 3) := by decide +kernel
theorem jd_Tree_copyFrom_19 : decode mi_Tree_copyFrom.2.1 19 = .ok (.invokevirtual 37, 3) := by decide +kernel
theorem jd_Tree_copyFrom_22 : decode mi_Tree_copyFrom.2.1 22 = .ok (.iinc 2 1, 3) := by decide +kernel
theorem jd_Tree_copyFrom_25 : decode mi_Tree_copyFrom.2.1 25 = .ok (.goto (-23), 3) := by decide +kernel
theorem jd_Tree_copyFrom_28 : decode mi_Tree_copyFrom.2.1 28 = .ok (.return_, 1) := by decide +kernel
theorem jd_Tree_sameAs_0 : decode mi_Tree_sameAs.2.1 0 = .ok (.iconst 0, 1) := by decide +kernel
theorem jd_Tree_sameAs_1 : decode mi_Tree_sameAs.2.1 1 = .ok (.istore_n 2, 1) := by decide +kernel
theorem jd_Tree_sameAs_2 : decode mi_Tree_sameAs.2.1 2 = .ok (.iload_n 2, 1) := by decide +kernel
theorem jd_Tree_sameAs_3 : decode mi_Tree_sameAs.2.1 3 = .ok (.bipush 12, 2) := by decide +kernel
theorem jd_Tree_sameAs_5 : decode mi_Tree_sameAs.2.1 5 = .ok (.if_icmp .ge 28, 3) := by decide +kernel
theorem jd_Tree_sameAs_8 : decode mi_Tree_sameAs.2.1 8 = .ok (.aload_n 0, 1) := by decide +kernel
theorem jd_Tree_sameAs_9 : decode mi_Tree_sameAs.2.1 9 = .ok (.getfield 11, 3) := by decide +kernel
theorem jd_Tree_sameAs_12 : decode mi_Tree_sameAs.2.1 12 = .ok (.iload_n 2, 1) := by decide +kernel
theorem jd_Tree_sameAs_13 : decode mi_Tree_sameAs.2.1 13 = .ok (.aaload, 1) := by decide +kernel
theorem jd_Tree_sameAs_14 : decode mi_Tree_sameAs.2.1 14 = .ok (.aload_n 1, 1) := by decide +kernel
theorem jd_Tree_sameAs_15 : decode mi_Tree_sameAs.2.1 15 = .ok (.iload_n 2, 1) := by decide +kernel
theorem jd_Tree_sameAs_16 : decode mi_Tree_sameAs.2.1 16 = .ok (.invokevirtual 22, 3) := by decide +kernel
theorem jd_Tree_sameAs_19 : decode mi_Tree_sameAs.2.1 19 = .ok (.invokevirtual 41, 3) := by decide +kernel
theorem jd_Tree_sameAs_22 : decode mi_Tree_sameAs.2.1 22 = .ok (.ifCond .ne 5, 3) := by decide +kernel
theorem jd_Tree_sameAs_25 : decode mi_Tree_sameAs.2.1 25 = .ok (.iconst 0, 1) := by decide +kernel
theorem jd_Tree_sameAs_26 : decode mi_Tree_sameAs.2.1 26 = .ok (.ireturn, 1) := by decide +kernel
theorem jd_Tree_sameAs_27 : decode mi_Tree_sameAs.2.1 27 = .ok (.iinc 2 1, 3) := by decide +kernel
theorem jd_Tree_sameAs_30 : decode mi_Tree_sameAs.2.1 30 = .ok (.goto (-28), 3) := by decide +kernel
theorem jd_Tree_sameAs_33 : decode mi_Tree_sameAs.2.1 33 = .ok (.iconst 1, 1) := by decide +kernel
theorem jd_Tree_sameAs_34 : decode mi_Tree_sameAs.2.1 34 = .ok (.ireturn, 1) := by decide +kernel
theorem jd_Arrays_fill_0 : decode mi_Arrays_fill.2.1 0 = .ok (.iconst 0, 1) := by decide +kernel
theorem jd_Arrays_fill_1 : decode mi_Arrays_fill.2.1 1 = .ok (.istore_n 2, 1) := by decide +kernel
theorem jd_Arrays_fill_2 : decode mi_Arrays_fill.2.1 2 = .ok (.aload_n 0, 1) := by decide +kernel
theorem jd_Arrays_fill_3 : decode mi_Arrays_fill.2.1 3 = .ok (.arraylength, 1) := by decide +kernel
theorem jd_Arrays_fill_4 : decode mi_Arrays_fill.2.1 4 = .ok (.istore_n 3, 1) := by decide +kernel
theorem jd_Arrays_fill_5 : decode mi_Arrays_fill.2.1 5 = .ok (.iload_n 2, 1) := by decide +kernel
theorem jd_Arrays_fill_6 : decode mi_Arrays_fill.2.1 6 = .ok (.iload_n 3, 1) := by decide +kernel
theorem jd_Arrays_fill_7 : decode mi_Arrays_fill.2.1 7 = .ok (.if_icmp .ge 13, 3) := by decide +kernel
theorem jd_Arrays_fill_10 : decode mi_Arrays_fill.2.1 10 = .ok (.aload_n 0, 1) := by decide +kernel
theorem jd_Arrays_fill_11 : decode mi_Arrays_fill.2.1 11 = .ok (.iload_n 2, 1) := by decide +kernel
theorem jd_Arrays_fill_12 : decode mi_Arrays_fill.2.1 12 = .ok (.iload_n 1, 1) := by decide +kernel
theorem jd_Arrays_fill_13 : decode mi_Arrays_fill.2.1 13 = .ok (.iastore, 1) := by decide +kernel
theorem jd_Arrays_fill_14 : decode mi_Arrays_fill.2.1 14 = .ok (.iinc 2 1, 3) := by decide +kernel
theorem jd_Arrays_fill_17 : decode mi_Arrays_fill.2.1 17 = .ok (.goto (-12), 3) := by decide +kernel
theorem jd_Arrays_fill_20 : decode mi_Arrays_fill.2.1 20 = .ok (.return_, 1) := by decide +kernel
/-! trees: TC o σ t A: the tree at t has the contents A -/
abbrev zT : Type := Nat → zV
def TC (o : jw_O) (σ : zS) (t : Nat) (A : zT) : Prop := isT o t ∧ ∀ p, p < 12 → VC o σ (fA t p) (A p)
theorem TC.fr {o : jw_O} {σ σ' : zS} {t b m : Nat} {A : zT} (h : TC o σ t A) (f : zF σ σ' b m) (hd : t + 28 ≤ b ∨ b + m ≤ t) : TC o σ' t A := ⟨h.1, fun p hp => (h.2 p hp).fr f (by unfold fA; omega)⟩
def nF (A : zT) : Int := it (fun p u => if (A p).1 = 0 then u else u + 1) 12 0 0
theorem it_rng {f : Nat → Int → Int} (hf : ∀ i u, u ≤ f i u ∧ f i u ≤ u + 1) : ∀ (d i : Nat) (u : Int), u ≤ it f d i u ∧ it f d i u ≤ u + d
  | 0, _, u => by simp [it]
  | d + 1, i, u => by
    have h1 := it_rng hf d (i + 1) (f i u)
    have h2 := hf i u
    unfold it
    omega
theorem nF_rng (A : zT) : 0 ≤ nF A ∧ nF A ≤ 12 := by
  have h := it_rng (f := fun p u => if (A p).1 = 0 then u else u + 1) (fun i u => by split <;> omega) 12 0 0
  unfold nF
  omega
noncomputable def eqT (A B : zT) : Int := @ite _ (∀ p, p < 12 → A p = B p) (Classical.propDecidable _) 1 0
theorem eqT_t {A B : zT} (h : ∀ p, p < 12 → A p = B p) : eqT A B = 1 := by unfold eqT; rw [if_pos h]
theorem eqT_f {A B : zT} (h : ¬ ∀ p, p < 12 → A p = B p) : eqT A B = 0 := by unfold eqT; rw [if_neg h]
theorem eqT_01 (A B : zT) : eqT A B = 0 ∨ eqT A B = 1 := by
  by_cases h : ∀ p, p < 12 → A p = B p
  · exact Or.inr (eqT_t h)
  · exact Or.inl (eqT_f h)
theorem eqT_1 {A B : zT} (h : eqT A B = 1) : ∀ p, p < 12 → A p = B p := by
  by_cases q : ∀ p, p < 12 → A p = B p
  · exact q
  · rw [eqT_f q] at h; omega
section
variable {o : jw_O} {σ : zS} {t : Nat} {A : zT}
theorem t_fileAt (h : isT o t) (p : Nat) (hp : p < 12) : zRo mi_Tree_fileAt 0 o [.ref t, .int (iI p)] σ (some (.ref (fA t p))) := by
  refine z_spec (by decide +kernel) (Nat.le_of_ble_eq_true rfl) rfl (fun k hs hR hE => ?_)
  refine jw_iload_n (pc' := 1) jd_Tree_fileAt_0 rfl rfl rfl ?_
  refine zx_if_lt (tgt := 19) (pc' := 4) (by first | exact rg_iv _ _ _ | omega) jd_Tree_fileAt_1 (by decide) rfl (fun q => ?_) (fun q => ?_)
  · exfalso; omega
  refine jw_iload_n (pc' := 5) jd_Tree_fileAt_4 rfl rfl rfl ?_
  refine zx_bipush (pc' := 7) (n := 12) jd_Tree_fileAt_5 (by decide +kernel) rfl ?_
  refine zx_icmp_ge (tgt := 19) (pc' := 10) (by first | exact rg_iv _ _ _ | omega) (by first | exact rg_iv _ _ _ | omega) jd_Tree_fileAt_7 (by decide) rfl (fun q2 => ?_) (fun q2 => ?_)
  · exfalso; omega
  refine jw_aload_n (pc' := 11) jd_Tree_fileAt_10 rfl rfl rfl ?_
  refine jw_get (pc' := 14) (kf := 0) jc_Tree (by decide) jq_73 jd_Tree_fileAt_11 (mc_Tree _ (by assumption)) rfl rfl ?_
  refine jw_iload_n (pc' := 15) jd_Tree_fileAt_14 rfl rfl rfl ?_
  refine zx_files (pc' := 16) (by assumption) jd_Tree_fileAt_15 rfl (by omega) rfl ?_
  refine jw_goto (tgt := 23) jd_Tree_fileAt_16 (by decide) ?_
  refine zx_aret hE jd_Tree_fileAt_23 rfl ?_
  exact ⟨rfl, rfl⟩
theorem t_has (h : TC o σ t A) (p : Nat) (hp : p < 12) : zRo mi_Tree_has 1 o [.ref t, .int (iI p)] σ (some (.int (iI (A p).1))) := by
  have ht := h.1
  have hf := (h.2 p hp).1
  have h01 := (h.2 p hp).2.1.p
  refine z_spec (by decide +kernel) (Nat.le_of_ble_eq_true rfl) rfl (fun k hs hR hE => ?_)
  refine jw_aload_n (pc' := 1) jd_Tree_has_0 rfl rfl rfl ?_
  refine jw_iload_n (pc' := 2) jd_Tree_has_1 rfl rfl rfl ?_
  refine zx_callV0 (pc' := 5) hR (t_fileAt ht p hp) jm_Tree_fileAt jq_405 jc_Tree jd_Tree_has_2 (mc_Tree _ (by assumption)) rfl rfl (Nat.le_of_ble_eq_true rfl) (by omega) (by decide) rfl rfl ?_
  refine zx_callV0 (pc' := 8) hR (c_exists (h.2 p hp)) jm_Content_exists jq_406 jc_Content jd_Tree_has_5 (mc_Content _ (by assumption)) rfl rfl (Nat.le_of_ble_eq_true rfl) (by omega) (by decide) rfl rfl ?_
  refine zx_zret (by first | exact Or.inl rfl | exact Or.inr rfl | assumption | omega) hE jd_Tree_has_8 rfl ?_
  exact ⟨rfl, rfl⟩
theorem t_count (h : TC o σ t A) : zRo mi_Tree_countFiles 2 o [.ref t] σ (some (.int (iI (nF A)))) := by
  have ht := h.1
  refine z_spec (by decide +kernel) (Nat.le_of_ble_eq_true rfl) rfl (fun k hs hR hE => ?_)
  refine zx_iconst (pc' := 1) (n := 0) jd_Tree_countFiles_0 rfl ?_
  refine jw_istore_n (pc' := 2) (lc' := [(0, _), (1, _)]) jd_Tree_countFiles_1 rfl (Nat.le_of_ble_eq_true rfl) ⟨rfl, rfl, trivial⟩ rfl ?_
  refine zx_iconst (pc' := 3) (n := 0) jd_Tree_countFiles_2 rfl ?_
  refine jw_istore_n (pc' := 4) (lc' := [(0, _), (1, _), (2, _)]) jd_Tree_countFiles_3 rfl (Nat.le_of_ble_eq_true rfl) ⟨rfl, rfl, rfl, trivial⟩ rfl ?_
  have loop : ∀ (m i : Nat) (u : Int), i + m = 12 → it (fun p u => if (A p).1 = 0 then u else u + 1) m i u = nF A → jw_X mi_Tree_countFiles o k 0 0 4 [(0, .ref t), (1, .int (iI u)), (2, .int (iI i))] [] (mm o σ) hs := by
    intro m
    induction m with
    | zero =>
      intro i u hi he
      refine jw_iload_n (pc' := 5) jd_Tree_countFiles_4 rfl rfl rfl ?_
      refine zx_bipush (pc' := 7) (n := 12) jd_Tree_countFiles_5 (by decide +kernel) rfl ?_
      refine zx_icmp_ge (tgt := 27) (pc' := 10) (by first | exact rg_iv _ _ _ | omega) (by first | exact rg_iv _ _ _ | omega) jd_Tree_countFiles_7 (by decide) rfl (fun q => ?_) (fun q => ?_)
      rotate_left
      · exfalso; omega
      refine jw_iload_n (pc' := 28) jd_Tree_countFiles_27 rfl rfl rfl ?_
      refine zx_iret hE jd_Tree_countFiles_28 rfl ?_
      exact ⟨by rw [← he]; rfl, rfl⟩
    | succ m ih =>
      intro i u hi he
      have h01 := (h.2 i (by omega)).2.1.p
      refine jw_iload_n (pc' := 5) jd_Tree_countFiles_4 rfl rfl rfl ?_
      refine zx_bipush (pc' := 7) (n := 12) jd_Tree_countFiles_5 (by decide +kernel) rfl ?_
      refine zx_icmp_ge (tgt := 27) (pc' := 10) (by first | exact rg_iv _ _ _ | omega) (by first | exact rg_iv _ _ _ | omega) jd_Tree_countFiles_7 (by decide) rfl (fun q => ?_) (fun q => ?_)
      · exfalso; omega
      refine jw_aload_n (pc' := 11) jd_Tree_countFiles_10 rfl rfl rfl ?_
      refine jw_iload_n (pc' := 12) jd_Tree_countFiles_11 rfl rfl rfl ?_
      refine zx_callV0 (pc' := 15) hR (t_has h i (by omega)) jm_Tree_has jq_736 jc_Tree jd_Tree_countFiles_12 (mc_Tree _ (by assumption)) rfl rfl (Nat.le_of_ble_eq_true rfl) (by omega) (by decide) rfl rfl ?_
      refine zx_if_eq (tgt := 21) (pc' := 18) (by first | exact rg_iv _ _ _ | omega) jd_Tree_countFiles_15 (by decide) rfl (fun q2 => ?_) (fun q2 => ?_)
      · refine zx_iinc (pc' := 24) (lc' := [(0, _), (1, _), (2, _)]) jd_Tree_countFiles_21 rfl (Nat.le_of_ble_eq_true rfl) ⟨rfl, rfl, rfl, trivial⟩ rfl ?_
        refine jw_goto (tgt := 4) jd_Tree_countFiles_24 (by decide) ?_
        exact ih (i + 1) u (by omega) (by rw [← he]; simp only [it]; rw [if_pos q2])
      · refine zx_iinc (pc' := 21) (lc' := [(0, _), (1, _), (2, _)]) jd_Tree_countFiles_18 rfl (Nat.le_of_ble_eq_true rfl) ⟨rfl, rfl, rfl, trivial⟩ rfl ?_
        refine zx_iinc (pc' := 24) (lc' := [(0, _), (1, _), (2, _)]) jd_Tree_countFiles_21 rfl (Nat.le_of_ble_eq_true rfl) ⟨rfl, rfl, rfl, trivial⟩ rfl ?_
        refine jw_goto (tgt := 4) jd_Tree_countFiles_24 (by decide) ?_
        exact ih (i + 1) (u + 1) (by omega) (by rw [← he]; simp only [it]; rw [if_neg q2])
  exact loop 12 0 0 (by omega) rfl
theorem t_clear (h : isT o t) : zSpec mi_Tree_clear 1 o [.ref t] σ (fun v s => v = none ∧ TC o s t (fun _ => v0) ∧ zF σ s t 28) := by
  refine z_spec (by decide +kernel) (Nat.le_of_ble_eq_true rfl) rfl (fun k hs hR hE => ?_)
  refine zx_iconst (pc' := 1) (n := 0) jd_Tree_clear_0 rfl ?_
  refine jw_istore_n (pc' := 2) (lc' := [(0, _), (1, _)]) jd_Tree_clear_1 rfl (Nat.le_of_ble_eq_true rfl) ⟨rfl, rfl, trivial⟩ rfl ?_
  have loop : ∀ (m i : Nat) (s : zS), i + m = 12 → (∀ p, p < i → VC o s (fA t p) v0) → zF σ s t 28 → jw_X mi_Tree_clear o k 0 0 2 [(0, .ref t), (1, .int (iI i))] [] (mm o s) hs := by
    intro m
    induction m with
    | zero =>
      intro i s hi hA hF
      refine jw_iload_n (pc' := 3) jd_Tree_clear_2 rfl rfl rfl ?_
      refine zx_bipush (pc' := 5) (n := 12) jd_Tree_clear_3 (by decide +kernel) rfl ?_
      refine zx_icmp_ge (tgt := 23) (pc' := 8) (by first | exact rg_iv _ _ _ | omega) (by first | exact rg_iv _ _ _ | omega) jd_Tree_clear_5 (by decide) rfl (fun q => ?_) (fun q => ?_)
      rotate_left
      · exfalso; omega
      refine zx_vret hE jd_Tree_clear_23 rfl ?_
      exact ⟨rfl, ⟨h, fun p hp => hA p (by omega)⟩, hF⟩
    | succ m ih =>
      intro i s hi hA hF
      have hc := h.f (p := i) (by omega)
      refine jw_iload_n (pc' := 3) jd_Tree_clear_2 rfl rfl rfl ?_
      refine zx_bipush (pc' := 5) (n := 12) jd_Tree_clear_3 (by decide +kernel) rfl ?_
      refine zx_icmp_ge (tgt := 23) (pc' := 8) (by first | exact rg_iv _ _ _ | omega) (by first | exact rg_iv _ _ _ | omega) jd_Tree_clear_5 (by decide) rfl (fun q => ?_) (fun q => ?_)
      · exfalso; omega
      refine jw_aload_n (pc' := 9) jd_Tree_clear_8 rfl rfl rfl ?_
      refine jw_get (pc' := 12) (kf := 0) jc_Tree (by decide) jq_73 jd_Tree_clear_9 (mc_Tree _ (by assumption)) rfl rfl ?_
      refine jw_iload_n (pc' := 13) jd_Tree_clear_12 rfl rfl rfl ?_
      refine zx_files (pc' := 14) (by assumption) jd_Tree_clear_13 rfl (by omega) rfl ?_
      refine zx_callV (pc' := 17) hR (c_absent hc rfl) jm_Content_becomeAbsent jq_539 jc_Content jd_Tree_clear_14 (mc_Content _ (by assumption)) rfl rfl (Nat.le_of_ble_eq_true rfl) (by omega) (by decide) rfl (fun v9 s1 q9 => ?_)
      obtain ⟨rfl, h1, f1⟩ := q9
      refine zx_iinc (pc' := 20) (lc' := [(0, _), (1, _)]) jd_Tree_clear_17 rfl (Nat.le_of_ble_eq_true rfl) ⟨rfl, rfl, trivial⟩ rfl ?_
      refine jw_goto (tgt := 2) jd_Tree_clear_20 (by decide) ?_
      refine ih (i + 1) s1 (by omega) (fun p hp => ?_) (hF.trans f1 (by unfold fA; omega) (by unfold fA; omega))
      by_cases q9 : p = i
      · rw [q9]; exact h1
      · exact (hA p (by omega)).fr f1 (by unfold fA; omega)
  exact loop 12 0 σ (by omega) (fun p hp => absurd hp (by omega)) zF.rf
theorem t_copyFrom {u : Nat} {B : zT} (h : isT o t) (h2 : TC o σ u B) (hd : t + 28 ≤ u ∨ u + 28 ≤ t) : zSpec mi_Tree_copyFrom 2 o [.ref t, .ref u] σ (fun v s => v = none ∧ TC o s t B ∧ zF σ s t 28) := by
  have hu := h2.1
  refine z_spec (by decide +kernel) (Nat.le_of_ble_eq_true rfl) rfl (fun k hs hR hE => ?_)
  refine zx_iconst (pc' := 1) (n := 0) jd_Tree_copyFrom_0 rfl ?_
  refine jw_istore_n (pc' := 2) (lc' := [(0, _), (1, _), (2, _)]) jd_Tree_copyFrom_1 rfl (Nat.le_of_ble_eq_true rfl) ⟨rfl, rfl, rfl, trivial⟩ rfl ?_
  have loop : ∀ (m i : Nat) (s : zS), i + m = 12 → (∀ p, p < i → VC o s (fA t p) (B p)) → zF σ s t 28 → jw_X mi_Tree_copyFrom o k 0 0 2 [(0, .ref t), (1, .ref u), (2, .int (iI i))] [] (mm o s) hs := by
    intro m
    induction m with
    | zero =>
      intro i s hi hA hF
      refine jw_iload_n (pc' := 3) jd_Tree_copyFrom_2 rfl rfl rfl ?_
      refine zx_bipush (pc' := 5) (n := 12) jd_Tree_copyFrom_3 (by decide +kernel) rfl ?_
      refine zx_icmp_ge (tgt := 28) (pc' := 8) (by first | exact rg_iv _ _ _ | omega) (by first | exact rg_iv _ _ _ | omega) jd_Tree_copyFrom_5 (by decide) rfl (fun q => ?_) (fun q => ?_)
      rotate_left
      · exfalso; omega
      refine zx_vret hE jd_Tree_copyFrom_28 rfl ?_
      exact ⟨rfl, ⟨h, fun p hp => hA p (by omega)⟩, hF⟩
    | succ m ih =>
      intro i s hi hA hF
      have hc := h.f (p := i) (by omega)
      have h3 := h2.fr hF hd.symm
      refine jw_iload_n (pc' := 3) jd_Tree_copyFrom_2 rfl rfl rfl ?_
      refine zx_bipush (pc' := 5) (n := 12) jd_Tree_copyFrom_3 (by decide +kernel) rfl ?_
      refine zx_icmp_ge (tgt := 28) (pc' := 8) (by first | exact rg_iv _ _ _ | omega) (by first | exact rg_iv _ _ _ | omega) jd_Tree_copyFrom_5 (by decide) rfl (fun q => ?_) (fun q => ?_)
      · exfalso; omega
      refine jw_aload_n (pc' := 9) jd_Tree_copyFrom_8 rfl rfl rfl ?_
      refine jw_get (pc' := 12) (kf := 0) jc_Tree (by decide) jq_73 jd_Tree_copyFrom_9 (mc_Tree _ (by assumption)) rfl rfl ?_
      refine jw_iload_n (pc' := 13) jd_Tree_copyFrom_12 rfl rfl rfl ?_
      refine zx_files (pc' := 14) (by assumption) jd_Tree_copyFrom_13 rfl (by omega) rfl ?_
      refine jw_aload_n (pc' := 15) jd_Tree_copyFrom_14 rfl rfl rfl ?_
      refine jw_iload_n (pc' := 16) jd_Tree_copyFrom_15 rfl rfl rfl ?_
      refine zx_callV0 (pc' := 19) hR (t_fileAt hu i (by omega)) jm_Tree_fileAt jq_405 jc_Tree jd_Tree_copyFrom_16 (mc_Tree _ (by assumption)) rfl rfl (Nat.le_of_ble_eq_true rfl) (by omega) (by decide) rfl rfl ?_
      refine zx_callV (pc' := 22) hR (c_copyFrom hc (h3.2 i (by omega)) (by unfold fA; omega)) jm_Content_copyFrom jq_473 jc_Content jd_Tree_copyFrom_19 (mc_Content _ (by assumption)) rfl rfl (Nat.le_of_ble_eq_true rfl) (by omega) (by decide) rfl (fun v9 s1 q9 => ?_)
      obtain ⟨rfl, h1, f1⟩ := q9
      refine zx_iinc (pc' := 25) (lc' := [(0, _), (1, _), (2, _)]) jd_Tree_copyFrom_22 rfl (Nat.le_of_ble_eq_true rfl) ⟨rfl, rfl, rfl, trivial⟩ rfl ?_
      refine jw_goto (tgt := 2) jd_Tree_copyFrom_25 (by decide) ?_
      refine ih (i + 1) s1 (by omega) (fun p hp => ?_) (hF.trans f1 (by unfold fA; omega) (by unfold fA; omega))
      by_cases q9 : p = i
      · rw [q9]; exact h1
      · exact (hA p (by omega)).fr f1 (by unfold fA; omega)
  exact loop 12 0 σ (by omega) (fun p hp => absurd hp (by omega)) zF.rf
theorem t_sameAs {u : Nat} {B : zT} (h : TC o σ t A) (h2 : TC o σ u B) : zRo mi_Tree_sameAs 2 o [.ref t, .ref u] σ (some (.int (iI (eqT A B)))) := by
  have ht := h.1
  have hu := h2.1
  refine z_spec (by decide +kernel) (Nat.le_of_ble_eq_true rfl) rfl (fun k hs hR hE => ?_)
  refine zx_iconst (pc' := 1) (n := 0) jd_Tree_sameAs_0 rfl ?_
  refine jw_istore_n (pc' := 2) (lc' := [(0, _), (1, _), (2, _)]) jd_Tree_sameAs_1 rfl (Nat.le_of_ble_eq_true rfl) ⟨rfl, rfl, rfl, trivial⟩ rfl ?_
  have loop : ∀ (m i : Nat), i + m = 12 → (∀ p, p < i → A p = B p) → jw_X mi_Tree_sameAs o k 0 0 2 [(0, .ref t), (1, .ref u), (2, .int (iI i))] [] (mm o σ) hs := by
    intro m
    induction m with
    | zero =>
      intro i hi hA
      refine jw_iload_n (pc' := 3) jd_Tree_sameAs_2 rfl rfl rfl ?_
      refine zx_bipush (pc' := 5) (n := 12) jd_Tree_sameAs_3 (by decide +kernel) rfl ?_
      refine zx_icmp_ge (tgt := 33) (pc' := 8) (by first | exact rg_iv _ _ _ | omega) (by first | exact rg_iv _ _ _ | omega) jd_Tree_sameAs_5 (by decide) rfl (fun q => ?_) (fun q => ?_)
      rotate_left
      · exfalso; omega
      refine zx_iconst (pc' := 34) (n := 1) jd_Tree_sameAs_33 rfl ?_
      refine zx_zret (by first | exact Or.inl rfl | exact Or.inr rfl | assumption | omega) hE jd_Tree_sameAs_34 rfl ?_
      exact ⟨by rw [eqT_t (fun p hp => hA p (by omega))], rfl⟩
    | succ m ih =>
      intro i hi hA
      have hc := ht.f (p := i) (by omega)
      have h01 := eqV_01 (A i) (B i)
      refine jw_iload_n (pc' := 3) jd_Tree_sameAs_2 rfl rfl rfl ?_
      refine zx_bipush (pc' := 5) (n := 12) jd_Tree_sameAs_3 (by decide +kernel) rfl ?_
      refine zx_icmp_ge (tgt := 33) (pc' := 8) (by first | exact rg_iv _ _ _ | omega) (by first | exact rg_iv _ _ _ | omega) jd_Tree_sameAs_5 (by decide) rfl (fun q => ?_) (fun q => ?_)
      · exfalso; omega
      refine jw_aload_n (pc' := 9) jd_Tree_sameAs_8 rfl rfl rfl ?_
      refine jw_get (pc' := 12) (kf := 0) jc_Tree (by decide) jq_73 jd_Tree_sameAs_9 (mc_Tree _ (by assumption)) rfl rfl ?_
      refine jw_iload_n (pc' := 13) jd_Tree_sameAs_12 rfl rfl rfl ?_
      refine zx_files (pc' := 14) (by assumption) jd_Tree_sameAs_13 rfl (by omega) rfl ?_
      refine jw_aload_n (pc' := 15) jd_Tree_sameAs_14 rfl rfl rfl ?_
      refine jw_iload_n (pc' := 16) jd_Tree_sameAs_15 rfl rfl rfl ?_
      refine zx_callV0 (pc' := 19) hR (t_fileAt hu i (by omega)) jm_Tree_fileAt jq_405 jc_Tree jd_Tree_sameAs_16 (mc_Tree _ (by assumption)) rfl rfl (Nat.le_of_ble_eq_true rfl) (by omega) (by decide) rfl rfl ?_
      refine zx_callV0 (pc' := 22) hR (c_sameAs (h.2 i (by omega)) (h2.2 i (by omega))) jm_Content_sameAs jq_460 jc_Content jd_Tree_sameAs_19 (mc_Content _ (by assumption)) rfl rfl (Nat.le_of_ble_eq_true rfl) (by omega) (by decide) rfl rfl ?_
      refine zx_if_ne (tgt := 27) (pc' := 25) (by first | exact rg_iv _ _ _ | omega) jd_Tree_sameAs_22 (by decide) rfl (fun q2 => ?_) (fun q2 => ?_)
      · refine zx_iinc (pc' := 30) (lc' := [(0, _), (1, _), (2, _)]) jd_Tree_sameAs_27 rfl (Nat.le_of_ble_eq_true rfl) ⟨rfl, rfl, rfl, trivial⟩ rfl ?_
        refine jw_goto (tgt := 2) jd_Tree_sameAs_30 (by decide) ?_
        refine ih (i + 1) (by omega) (fun p hp => ?_)
        by_cases q9 : p = i
        · rw [q9]; exact eqV_1.mp (by omega)
        · exact hA p (by omega)
      · refine zx_iconst (pc' := 26) (n := 0) jd_Tree_sameAs_25 rfl ?_
        refine zx_zret (by first | exact Or.inl rfl | exact Or.inr rfl | assumption | omega) hE jd_Tree_sameAs_26 rfl ?_
        exact ⟨by rw [eqT_f (fun z => eqV_0.mp q2 (z i (by omega)))], rfl⟩
  exact loop 12 0 (by omega) (fun p hp => absurd hp (by omega))
theorem z_fill {a n : Nat} {v : Int} (ha : ∀ s, mm o s a = some (.inl (o.2.2.1 0, n, .inl (s a)))) (hn : n < 1000) (hv : -2147483648 ≤ v ∧ v < 2147483648) : zSpec mi_Arrays_fill 0 o [.ref a, .int (iI v)] σ (fun r s => r = none ∧ (∀ q, q < n → iv s a q = v) ∧ zF σ s a 1) := by
  refine z_spec (by decide +kernel) (Nat.le_of_ble_eq_true rfl) rfl (fun k hs hR hE => ?_)
  refine zx_iconst (pc' := 1) (n := 0) jd_Arrays_fill_0 rfl ?_
  refine jw_istore_n (pc' := 2) (lc' := [(0, _), (1, _), (2, _)]) jd_Arrays_fill_1 rfl (Nat.le_of_ble_eq_true rfl) ⟨rfl, rfl, rfl, trivial⟩ rfl ?_
  refine jw_aload_n (pc' := 3) jd_Arrays_fill_2 rfl rfl rfl ?_
  refine zx_alen (pc' := 4) (i := 0) jd_Arrays_fill_3 (ha _) rfl rfl rfl ?_
  refine jw_istore_n (pc' := 5) (lc' := [(0, _), (1, _), (2, _), (3, _)]) jd_Arrays_fill_4 rfl (Nat.le_of_ble_eq_true rfl) ⟨rfl, rfl, rfl, rfl, trivial⟩ rfl ?_
  have loop : ∀ (m i : Nat) (s : zS), i + m = n → (∀ p, p < i → iv s a p = v) → zF σ s a 1 → jw_X mi_Arrays_fill o k 0 0 5 [(0, .ref a), (1, .int (iI v)), (2, .int (iI i)), (3, .int (iI n))] [] (mm o s) hs := by
    intro m
    induction m with
    | zero =>
      intro i s hi hA hF
      refine jw_iload_n (pc' := 6) jd_Arrays_fill_5 rfl rfl rfl ?_
      refine jw_iload_n (pc' := 7) jd_Arrays_fill_6 rfl rfl rfl ?_
      refine zx_icmp_ge (tgt := 20) (pc' := 10) (by first | exact rg_iv _ _ _ | omega) (by first | exact rg_iv _ _ _ | omega) jd_Arrays_fill_7 (by decide) rfl (fun q => ?_) (fun q => ?_)
      rotate_left
      · exfalso; omega
      refine zx_vret hE jd_Arrays_fill_20 rfl ?_
      exact ⟨rfl, fun p hp => hA p (by omega), hF⟩
    | succ m ih =>
      intro i s hi hA hF
      refine jw_iload_n (pc' := 6) jd_Arrays_fill_5 rfl rfl rfl ?_
      refine jw_iload_n (pc' := 7) jd_Arrays_fill_6 rfl rfl rfl ?_
      refine zx_icmp_ge (tgt := 20) (pc' := 10) (by first | exact rg_iv _ _ _ | omega) (by first | exact rg_iv _ _ _ | omega) jd_Arrays_fill_7 (by decide) rfl (fun q => ?_) (fun q => ?_)
      · exfalso; omega
      refine jw_aload_n (pc' := 11) jd_Arrays_fill_10 rfl rfl rfl ?_
      refine jw_iload_n (pc' := 12) jd_Arrays_fill_11 rfl rfl rfl ?_
      refine jw_iload_n (pc' := 13) jd_Arrays_fill_12 rfl rfl rfl ?_
      refine zx_iast (pc' := 14) jd_Arrays_fill_13 (ha _) rfl (by omega) (by omega) rfl ?_
      refine zx_iinc (pc' := 17) (lc' := [(0, _), (1, _), (2, _), (3, _)]) jd_Arrays_fill_14 rfl (Nat.le_of_ble_eq_true rfl) ⟨rfl, rfl, rfl, rfl, trivial⟩ rfl ?_
      refine jw_goto (tgt := 5) jd_Arrays_fill_17 (by decide) ?_
      refine ih (i + 1) _ (by omega) (fun p hp => ?_) (hF.si (by omega))
      rw [iv_si hv]
      by_cases q9 : p = i
      · rw [if_pos ⟨rfl, q9⟩]
      · rw [if_neg (fun z => q9 z.2)]; exact hA p (by omega)
  exact loop n 0 σ (by omega) (fun p hp => absurd hp (by omega)) zF.rf
end
