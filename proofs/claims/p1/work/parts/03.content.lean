theorem jd_Content_init_0 : decode mi_Content_init.2.1 0 = .ok (.aload_n 0, 1) := by decide +kernel
theorem jd_Content_init_1 : decode mi_Content_init.2.1 1 = .ok (.invokespecial 3, 3) := by decide +kernel
theorem jd_Content_init_4 : decode mi_Content_init.2.1 4 = .ok (.aload_n 0, 1) := by decide +kernel
theorem jd_Content_init_5 : decode mi_Content_init.2.1 5 = .ok (.bipush 10, 2) := by decide +kernel
theorem jd_Content_init_7 : decode mi_Content_init.2.1 7 = .ok (.newarray .int, 2) := by decide +kernel
theorem jd_Content_init_9 : decode mi_Content_init.2.1 9 = .ok (.putfield 9, 3) := by decide +kernel
theorem jd_Content_init_12 : decode mi_Content_init.2.1 12 = .ok (.aload_n 0, 1) := by decide +kernel
theorem jd_Content_init_13 : decode mi_Content_init.2.1 13 = .ok (.iconst 0, 1) := by decide +kernel
theorem jd_Content_init_14 : decode mi_Content_init.2.1 14 = .ok (.putfield 15, 3) := by decide +kernel
theorem jd_Content_init_17 : decode mi_Content_init.2.1 17 = .ok (.aload_n 0, 1) := by decide +kernel
theorem jd_Content_init_18 : decode mi_Content_init.2.1 18 = .ok (.iconst 0, 1) := by decide +kernel
theorem jd_Content_init_19 : decode mi_Content_init.2.1 19 = .ok (.putfield 19, 3) := by decide +kernel
theorem jd_Content_init_22 : decode mi_Content_init.2.1 22 = .ok (.return_, 1) := by decide +kernel
theorem jd_Content_exists_0 : decode mi_Content_exists.2.1 0 = .ok (.aload_n 0, 1) := by decide +kernel
theorem jd_Content_exists_1 : decode mi_Content_exists.2.1 1 = .ok (.getfield 19, 3) := by decide +kernel
theorem jd_Content_exists_4 : decode mi_Content_exists.2.1 4 = .ok (.ireturn, 1) := by decide +kernel
theorem jd_Content_length_0 : decode mi_Content_length.2.1 0 = .ok (.aload_n 0, 1) := by decide +kernel
theorem jd_Content_length_1 : decode mi_Content_length.2.1 1 = .ok (.getfield 15, 3) := by decide +kernel
theorem jd_Content_length_4 : decode mi_Content_length.2.1 4 = .ok (.ireturn, 1) := by decide +kernel
theorem jd_Content_isFull_0 : decode mi_Content_isFull.2.1 0 = .ok (.aload_n 0, 1) := by decide +kernel
theorem jd_Content_isFull_1 : decode mi_Content_isFull.2.1 1 = .ok (.getfield 15, 3) := by decide +kernel
theorem jd_Content_isFull_4 : decode mi_Content_isFull.2.1 4 = .ok (.bipush 10, 2) := by decide +kernel
theorem jd_Content_isFull_6 : decode mi_Content_isFull.2.1 6 = .ok (.if_icmp .lt 7, 3) := by decide +kernel
theorem jd_Content_isFull_9 : decode mi_Content_isFull.2.1 9 = .ok (.iconst 1, 1) := by decide +kernel
theorem jd_Content_isFull_10 : decode mi_Content_isFull.2.1 10 = .ok (.goto 4, 3) := by decide +kernel
theorem jd_Content_isFull_13 : decode mi_Content_isFull.2.1 13 = .ok (.iconst 0, 1) := by decide +kernel
theorem jd_Content_isFull_14 : decode mi_Content_isFull.2.1 14 = .ok (.ireturn, 1) := by decide +kernel
theorem jd_Content_holds_0 : decode mi_Content_holds.2.1 0 = .ok (.iload_n 1, 1) := by decide +kernel
theorem jd_Content_holds_1 : decode mi_Content_holds.2.1 1 = .ok (.ifCond .lt 21, 3) := by decide +kernel
theorem jd_Content_holds_4 : decode mi_Content_holds.2.1 4 = .ok (.iload_n 1, 1) := by decide +kernel
theorem jd_Content_holds_5 : decode mi_Content_holds.2.1 5 = .ok (.aload_n 0, 1) := by decide +kernel
theorem jd_Content_holds_6 : decode mi_Content_holds.2.1 6 = .ok (.getfield 15, 3) := by decide +kernel
theorem jd_Content_holds_9 : decode mi_Content_holds.2.1 9 = .ok (.if_icmp .ge 13, 3) := by decide +kernel
theorem jd_Content_holds_12 : decode mi_Content_holds.2.1 12 = .ok (.iload_n 1, 1) := by decide +kernel
theorem jd_Content_holds_13 : decode mi_Content_holds.2.1 13 = .ok (.bipush 10, 2) := by decide +kernel
theorem jd_Content_holds_15 : decode mi_Content_holds.2.1 15 = .ok (.if_icmp .ge 7, 3) := by decide +kernel
theorem jd_Content_holds_18 : decode mi_Content_holds.2.1 18 = .ok (.iconst 1, 1) := by decide +kernel
theorem jd_Content_holds_19 : decode mi_Content_holds.2.1 19 = .ok (.goto 4, 3) := by decide +kernel
theorem jd_Content_holds_22 : decode mi_Content_holds.2.1 22 = .ok (.iconst 0, 1) := by decide +kernel
theorem jd_Content_holds_23 : decode mi_Content_holds.2.1 23 = .ok (.ireturn, 1) := by decide +kernel
theorem jd_Content_lineAt_0 : decode mi_Content_lineAt.2.1 0 = .ok (.iload_n 1, 1) := by decide +kernel
theorem jd_Content_lineAt_1 : decode mi_Content_lineAt.2.1 1 = .ok (.ifCond .lt 26, 3) := by decide +kernel
theorem jd_Content_lineAt_4 : decode mi_Content_lineAt.2.1 4 = .ok (.iload_n 1, 1) := by decide +kernel
theorem jd_Content_lineAt_5 : decode mi_Content_lineAt.2.1 5 = .ok (.aload_n 0, 1) := by decide +kernel
theorem jd_Content_lineAt_6 : decode mi_Content_lineAt.2.1 6 = .ok (.getfield 15, 3) := by decide +kernel
theorem jd_Content_lineAt_9 : decode mi_Content_lineAt.2.1 9 = .ok (.if_icmp .ge 18, 3) := by decide +kernel
theorem jd_Content_lineAt_12 : decode mi_Content_lineAt.2.1 12 = .ok (.iload_n 1, 1) := by decide +kernel
theorem jd_Content_lineAt_13 : decode mi_Content_lineAt.2.1 13 = .ok (.bipush 10, 2) := by decide +kernel
theorem jd_Content_lineAt_15 : decode mi_Content_lineAt.2.1 15 = .ok (.if_icmp .ge 12, 3) := by decide +kernel
theorem jd_Content_lineAt_18 : decode mi_Content_lineAt.2.1 18 = .ok (.aload_n 0, 1) := by decide +kernel
theorem jd_Content_lineAt_19 : decode mi_Content_lineAt.2.1 19 = .ok (.getfield 9, 3) := by decide +kernel
theorem jd_Content_lineAt_22 : decode mi_Content_lineAt.2.1 22 = .ok (.iload_n 1, 1) := by decide +kernel
theorem jd_Content_lineAt_23 : decode mi_Content_lineAt.2.1 23 = .ok (.iaload, 1) := by decide +kernel
theorem jd_Content_lineAt_24 : decode mi_Content_lineAt.2.1 24 = .ok (.goto 4, 3) := by decide +kernel
theorem jd_Content_lineAt_27 : decode mi_Content_lineAt.2.1 27 = .ok (.iconst (-1), 1) := by decide +kernel
theorem jd_Content_lineAt_28 : decode mi_Content_lineAt.2.1 28 = .ok (.ireturn, 1) := by decide +kernel
theorem jd_Content_becomeAbsent_0 : decode mi_Content_becomeAbsent.2.1 0 = .ok (.aload_n 0, 1) := by decide +kernel
theorem jd_Content_becomeAbsent_1 : decode mi_Content_becomeAbsent.2.1 1 = .ok (.iconst 0, 1) := by decide +kernel
theorem jd_Content_becomeAbsent_2 : decode mi_Content_becomeAbsent.2.1 2 = .ok (.putfield 15, 3) := by decide +kernel
theorem jd_Content_becomeAbsent_5 : decode mi_Content_becomeAbsent.2.1 5 = .ok (.aload_n 0, 1) := by decide +kernel
theorem jd_Content_becomeAbsent_6 : decode mi_Content_becomeAbsent.2.1 6 = .ok (.iconst 0, 1) := by decide +kernel
theorem jd_Content_becomeAbsent_7 : decode mi_Content_becomeAbsent.2.1 7 = .ok (.putfield 19, 3) := by decide +kernel
theorem jd_Content_becomeAbsent_10 : decode mi_Content_becomeAbsent.2.1 10 = .ok (.return_, 1) := by decide +kernel
theorem jd_Content_append_0 : decode mi_Content_append.2.1 0 = .ok (.aload_n 0, 1) := by decide +kernel
theorem jd_Content_append_1 : decode mi_Content_append.2.1 1 = .ok (.getfield 15, 3) := by decide +kernel
theorem jd_Content_append_4 : decode mi_Content_append.2.1 4 = .ok (.bipush 10, 2) := by decide +kernel
theorem jd_Content_append_6 : decode mi_Content_append.2.1 6 = .ok (.if_icmp .ge 23, 3) := by decide +kernel
theorem jd_Content_append_9 : decode mi_Content_append.2.1 9 = .ok (.aload_n 0, 1) := by decide +kernel
theorem jd_Content_append_10 : decode mi_Content_append.2.1 10 = .ok (.getfield 9, 3) := by decide +kernel
theorem jd_Content_append_13 : decode mi_Content_append.2.1 13 = .ok (.aload_n 0, 1) := by decide +kernel
theorem jd_Content_append_14 : decode mi_Content_append.2.1 14 = .ok (.getfield 15, 3) := by decide +kernel
theorem jd_Content_append_17 : decode mi_Content_append.2.1 17 = .ok (.iload_n 1, 1) := by decide +kernel
theorem jd_Content_append_18 : decode mi_Content_append.2.1 18 = .ok (.iastore, 1) := by decide +kernel
theorem jd_Content_append_19 : decode mi_Content_append.2.1 19 = .ok (.aload_n 0, 1) := by decide +kernel
theorem jd_Content_append_20 : decode mi_Content_append.2.1 20 = .ok (.dup, 1) := by decide +kernel
theorem jd_Content_append_21 : decode mi_Content_append.2.1 21 = .ok (.getfield 15, 3) := by decide +kernel
theorem jd_Content_append_24 : decode mi_Content_append.2.1 24 = .ok (.iconst 1, 1) := by decide +kernel
theorem jd_Content_append_25 : decode mi_Content_append.2.1 25 = .ok (.iadd, 1) := by decide +kernel
theorem jd_Content_append_26 : decode mi_Content_append.2.1 26 = .ok (.putfield 15, 3) := by decide +kernel
theorem jd_Content_append_29 : decode mi_Content_append.2.1 29 = .ok (.return_, 1) := by decide +kernel
/-- a Content object's two cells -/
def bc_At (o : jw_O) (μ : jw_Mem) (a n : Nat) (p : Int32) (g : Nat → Int32) : Prop := μ a = some (.inr (0, [.ref (a + 1), .int (nI n), .int p])) ∧ μ (a + 1) = some (.inl (o.2.2.1 0, 10, .inl g))
section
variable {o : jw_O} {μ : jw_Mem} {hs a n : Nat} {p : Int32} {g : Nat → Int32}
theorem bc_exists (h : bc_At o μ a n p g) (hp : p = 0 ∨ p = 1) : jw_Ro mi_Content_exists 0 o [.ref a] μ hs (some (.int p)) := by
  refine jw_ro (by decide +kernel) (Nat.le_of_ble_eq_true rfl) rfl (fun k hR hE => ?_)
  obtain ⟨ha, hb⟩ := h
  have hz : narrow .boolean (.int p) = .int p := by rcases hp with rfl | rfl <;> decide
  refine jw_aload_n (pc' := 1) jd_Content_exists_0 rfl rfl rfl ?_
  refine jw_get (pc' := 4) (kf := 2) jc_Content (by decide) jq_108 jd_Content_exists_1 (by assumption) rfl rfl ?_
  exact jw_zret hE jd_Content_exists_4 rfl hz (by omega) (by omega) ⟨rfl, rfl, rfl⟩
theorem bc_length (h : bc_At o μ a n p g) : jw_Ro mi_Content_length 0 o [.ref a] μ hs (some (.int (nI n))) := by
  refine jw_ro (by decide +kernel) (Nat.le_of_ble_eq_true rfl) rfl (fun k hR hE => ?_)
  obtain ⟨ha, hb⟩ := h
  refine jw_aload_n (pc' := 1) jd_Content_length_0 rfl rfl rfl ?_
  refine jw_get (pc' := 4) (kf := 1) jc_Content (by decide) jq_107 jd_Content_length_1 (by assumption) rfl rfl ?_
  refine jw_iret hE jd_Content_length_4 rfl (by omega) (by omega) ?_
  exact ⟨rfl, rfl, rfl⟩
theorem bc_isFull (h : bc_At o μ a n p g) (hn : n ≤ 10) : jw_Ro mi_Content_isFull 0 o [.ref a] μ hs (some (.int (if n < 10 then 0 else 1))) := by
  refine jw_ro (by decide +kernel) (Nat.le_of_ble_eq_true rfl) rfl (fun k hR hE => ?_)
  obtain ⟨ha, hb⟩ := h
  refine jw_aload_n (pc' := 1) jd_Content_isFull_0 rfl rfl rfl ?_
  refine jw_get (pc' := 4) (kf := 1) jc_Content (by decide) jq_107 jd_Content_isFull_1 (by assumption) rfl rfl ?_
  refine jw_bipush (pc' := 6) (v := nI 10) jd_Content_isFull_4 (by decide +kernel) rfl ?_
  refine jw_icmp_lt (tgt := 13) (pc' := 9) jd_Content_isFull_6 (by decide) rfl (fun c => ?_) (fun c => ?_)
  · have h2 : n < 10 := (nI_ltI (by omega) (by omega)).mp c
    refine jw_iconst (pc' := 14) (v := nI 0) jd_Content_isFull_13 (by decide +kernel) rfl ?_
    refine jw_zret hE jd_Content_isFull_14 rfl (by first | exact vp_nar_int _ | decide +kernel) (by omega) (by omega) ?_
    rw [if_pos h2]
    exact ⟨rfl, rfl, rfl⟩
  · have h2 : ¬ n < 10 := fun z => c ((nI_ltI (by omega) (by omega)).mpr z)
    refine jw_iconst (pc' := 10) (v := nI 1) jd_Content_isFull_9 (by decide +kernel) rfl ?_
    refine jw_goto (tgt := 14) jd_Content_isFull_10 (by decide) ?_
    refine jw_zret hE jd_Content_isFull_14 rfl (by first | exact vp_nar_int _ | decide +kernel) (by omega) (by omega) ?_
    rw [if_neg h2]
    exact ⟨rfl, rfl, rfl⟩
theorem bc_becomeAbsent (h : bc_At o μ a n p g) : jw_Spec mi_Content_becomeAbsent 0 0 0 o [.ref a] μ hs (fun v μ' s' => v = none ∧ s' = hs ∧ bc_At o μ' a 0 0 g ∧ ∀ q, q ≠ a → μ' q = μ q) := by
  refine jw_spec (by decide +kernel) (Nat.le_of_ble_eq_true rfl) rfl (fun k hR hE => ?_)
  obtain ⟨ha, hb⟩ := h
  have hF : jw_Fr μ μ a 1 := jw_Fr.rf
  refine jw_aload_n (pc' := 1) jd_Content_becomeAbsent_0 rfl rfl rfl ?_
  refine jw_iconst (pc' := 2) (v := nI 0) jd_Content_becomeAbsent_1 (by decide +kernel) rfl ?_
  refine jw_put (pc' := 5) (kf := 1) (ty := .int) jc_Content (by decide) jq_107 jd_Content_becomeAbsent_2 rfl (by decide +kernel) (by assumption) rfl rfl rfl (by decide) rfl (fun μ ha f9 => ?_)
  have hb := (f9 _ (by omega)).trans hb
  have hF := jw_Fr.step hF f9 (by omega)
  refine jw_aload_n (pc' := 6) jd_Content_becomeAbsent_5 rfl rfl rfl ?_
  refine jw_iconst (pc' := 7) (v := nI 0) jd_Content_becomeAbsent_6 (by decide +kernel) rfl ?_
  refine jw_put (pc' := 10) (kf := 2) (ty := .boolean) jc_Content (by decide) jq_108 jd_Content_becomeAbsent_7 rfl (by decide +kernel) (by assumption) rfl rfl rfl (by decide) rfl (fun μ ha f9 => ?_)
  have hb := (f9 _ (by omega)).trans hb
  have hF := jw_Fr.step hF f9 (by omega)
  refine jw_vret hE jd_Content_becomeAbsent_10 rfl (by omega) (by omega) ?_
  refine ⟨rfl, rfl, ⟨ha, hb⟩, fun q hq => ?_⟩
  exact hF q (by omega)
end
