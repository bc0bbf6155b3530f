theorem jd_Match_init_0 : decode mi_Match_init.2.1 0 = .ok (.aload_n 0, 1) := by decide +kernel
theorem jd_Match_init_1 : decode mi_Match_init.2.1 1 = .ok (.invokespecial 3, 3) := by decide +kernel
theorem jd_Match_init_4 : decode mi_Match_init.2.1 4 = .ok (.aload_n 0, 1) := by decide +kernel
theorem jd_Match_init_5 : decode mi_Match_init.2.1 5 = .ok (.bipush 121, 2) := by decide +kernel
theorem jd_Match_init_7 : decode mi_Match_init.2.1 7 = .ok (.newarray .int, 2) := by decide +kernel
theorem jd_Match_init_9 : decode mi_Match_init.2.1 9 = .ok (.putfield 11, 3) := by decide +kernel
theorem jd_Match_init_12 : decode mi_Match_init.2.1 12 = .ok (.aload_n 0, 1) := by decide +kernel
theorem jd_Match_init_13 : decode mi_Match_init.2.1 13 = .ok (.bipush 10, 2) := by decide +kernel
theorem jd_Match_init_15 : decode mi_Match_init.2.1 15 = .ok (.newarray .int, 2) := by decide +kernel
theorem jd_Match_init_17 : decode mi_Match_init.2.1 17 = .ok (.putfield 15, 3) := by decide +kernel
theorem jd_Match_init_20 : decode mi_Match_init.2.1 20 = .ok (.aload_n 0, 1) := by decide +kernel
theorem jd_Match_init_21 : decode mi_Match_init.2.1 21 = .ok (.bipush 10, 2) := by decide +kernel
theorem jd_Match_init_23 : decode mi_Match_init.2.1 23 = .ok (.newarray .int, 2) := by decide +kernel
theorem jd_Match_init_25 : decode mi_Match_init.2.1 25 = .ok (.putfield 18, 3) := by decide +kernel
theorem jd_Match_init_28 : decode mi_Match_init.2.1 28 = .ok (.return_, 1) := by decide +kernel
theorem jd_Renames_init_0 : decode mi_Renames_init.2.1 0 = .ok (.aload_n 0, 1) := by decide +kernel
theorem jd_Renames_init_1 : decode mi_Renames_init.2.1 1 = .ok (.invokespecial 3, 3) := by decide +kernel
theorem jd_Renames_init_4 : decode mi_Renames_init.2.1 4 = .ok (.aload_n 0, 1) := by decide +kernel
theorem jd_Renames_init_5 : decode mi_Renames_init.2.1 5 = .ok (.bipush 12, 2) := by decide +kernel
theorem jd_Renames_init_7 : decode mi_Renames_init.2.1 7 = .ok (.newarray .int, 2) := by decide +kernel
theorem jd_Renames_init_9 : decode mi_Renames_init.2.1 9 = .ok (.putfield 9, 3) := by decide +kernel
theorem jd_Renames_init_12 : decode mi_Renames_init.2.1 12 = .ok (.aload_n 0, 1) := by decide +kernel
theorem jd_Renames_init_13 : decode mi_Renames_init.2.1 13 = .ok (.bipush 12, 2) := by decide +kernel
theorem jd_Renames_init_15 : decode mi_Renames_init.2.1 15 = .ok (.newarray .int, 2) := by decide +kernel
theorem jd_Renames_init_17 : decode mi_Renames_init.2.1 17 = .ok (.putfield 15, 3) := by decide +kernel
theorem jd_Renames_init_20 : decode mi_Renames_init.2.1 20 = .ok (.aload_n 0, 1) := by decide +kernel
theorem jd_Renames_init_21 : decode mi_Renames_init.2.1 21 = .ok (.new 18, 3) := by decide +kernel
theorem jd_Renames_init_24 : decode mi_Renames_init.2.1 24 = .ok (.dup, 1) := by decide +kernel
theorem jd_Renames_init_25 : decode mi_Renames_init.2.1 25 = .ok (.invokespecial 20, 3) := by decide +kernel
theorem jd_Renames_init_28 : decode mi_Renames_init.2.1 28 = .ok (.putfield 21, 3) := by decide +kernel
theorem jd_Renames_init_31 : decode mi_Renames_init.2.1 31 = .ok (.aload_n 0, 1) := by decide +kernel
theorem jd_Renames_init_32 : decode mi_Renames_init.2.1 32 = .ok (.iconst 0, 1) := by decide +kernel
theorem jd_Renames_init_33 : decode mi_Renames_init.2.1 33 = .ok (.putfield 25, 3) := by decide +kernel
theorem jd_Renames_init_36 : decode mi_Renames_init.2.1 36 = .ok (.return_, 1) := by decide +kernel
theorem jd_Conflicts_init_0 : decode mi_Conflicts_init.2.1 0 = .ok (.aload_n 0, 1) := by decide +kernel
theorem jd_Conflicts_init_1 : decode mi_Conflicts_init.2.1 1 = .ok (.invokespecial 3, 3) := by decide +kernel
theorem jd_Conflicts_init_4 : decode mi_Conflicts_init.2.1 4 = .ok (.aload_n 0, 1) := by decide +kernel
theorem jd_Conflicts_init_5 : decode mi_Conflicts_init.2.1 5 = .ok (.bipush 24, 2) := by decide +kernel
theorem jd_Conflicts_init_7 : decode mi_Conflicts_init.2.1 7 = .ok (.newarray .int, 2) := by decide +kernel
theorem jd_Conflicts_init_9 : decode mi_Conflicts_init.2.1 9 = .ok (.putfield 9, 3) := by decide +kernel
theorem jd_Conflicts_init_12 : decode mi_Conflicts_init.2.1 12 = .ok (.aload_n 0, 1) := by decide +kernel
theorem jd_Conflicts_init_13 : decode mi_Conflicts_init.2.1 13 = .ok (.bipush 24, 2) := by decide +kernel
theorem jd_Conflicts_init_15 : decode mi_Conflicts_init.2.1 15 = .ok (.newarray .int, 2) := by decide +kernel
theorem jd_Conflicts_init_17 : decode mi_Conflicts_init.2.1 17 = .ok (.putfield 15, 3) := by decide +kernel
theorem jd_Conflicts_init_20 : decode mi_Conflicts_init.2.1 20 = .ok (.aload_n 0, 1) := by decide +kernel
theorem jd_Conflicts_init_21 : decode mi_Conflicts_init.2.1 21 = .ok (.iconst 0, 1) := by decide +kernel
theorem jd_Conflicts_init_22 : decode mi_Conflicts_init.2.1 22 = .ok (.putfield 18, 3) := by decide +kernel
theorem jd_Conflicts_init_25 : decode mi_Conflicts_init.2.1 25 = .ok (.return_, 1) := by decide +kernel
theorem jd_Blender_init_0 : decode mi_Blender_init.2.1 0 = .ok (.aload_n 0, 1) := by decide +kernel
theorem jd_Blender_init_1 : decode mi_Blender_init.2.1 1 = .ok (.invokespecial 3, 3) := by decide +kernel
theorem jd_Blender_init_4 : decode mi_Blender_init.2.1 4 = .ok (.aload_n 0, 1) := by decide +kernel
theorem jd_Blender_init_5 : decode mi_Blender_init.2.1 5 = .ok (.new 9, 3) := by decide +kernel
theorem jd_Blender_init_8 : decode mi_Blender_init.2.1 8 = .ok (.dup, 1) := by decide +kernel
theorem jd_Blender_init_9 : decode mi_Blender_init.2.1 9 = .ok (.invokespecial 11, 3) := by decide +kernel
theorem jd_Blender_init_12 : decode mi_Blender_init.2.1 12 = .ok (.putfield 12, 3) := by decide +kernel
theorem jd_Blender_init_15 : decode mi_Blender_init.2.1 15 = .ok (.aload_n 0, 1) := by decide +kernel
theorem jd_Blender_init_16 : decode mi_Blender_init.2.1 16 = .ok (.new 9, 3) := by decide +kernel
theorem jd_Blender_init_19 : decode mi_Blender_init.2.1 19 = .ok (.dup, 1) := by decide +kernel
theorem jd_Blender_init_20 : decode mi_Blender_init.2.1 20 = .ok (.invokespecial 11, 3) := by decide +kernel
theorem jd_Blender_init_23 : decode mi_Blender_init.2.1 23 = .ok (.putfield 18, 3) := by decide +kernel
theorem jd_Blender_init_26 : decode mi_Blender_init.2.1 26 = .ok (.aload_n 0, 1) := by decide +kernel
theorem jd_Blender_init_27 : decode mi_Blender_init.2.1 27 = .ok (.new 21, 3) := by decide +kernel
theorem jd_Blender_init_30 : decode mi_Blender_init.2.1 30 = .ok (.dup, 1) := by decide +kernel
theorem jd_Blender_init_31 : decode mi_Blender_init.2.1 31 = .ok (.invokespecial 23, 3) := by decide +kernel
theorem jd_Blender_init_34 : decode mi_Blender_init.2.1 34 = .ok (.putfield 24, 3) := by decide +kernel
theorem jd_Blender_init_37 : decode mi_Blender_init.2.1 37 = .ok (.aload_n 0, 1) := by decide +kernel
theorem jd_Blender_init_38 : decode mi_Blender_init.2.1 38 = .ok (.new 21, 3) := by decide +kernel
theorem jd_Blender_init_41 : decode mi_Blender_init.2.1 41 = .ok (.dup, 1) := by decide +kernel
theorem jd_Blender_init_42 : decode mi_Blender_init.2.1 42 = .ok (.invokespecial 23, 3) := by decide +kernel
theorem jd_Blender_init_45 : decode mi_Blender_init.2.1 45 = .ok (.putfield 28, 3) := by decide +kernel
theorem jd_Blender_init_48 : decode mi_Blender_init.2.1 48 = .ok (.aload_n 0, 1) := by decide +kernel
theorem jd_Blender_init_49 : decode mi_Blender_init.2.1 49 = .ok (.new 21, 3) := by decide +kernel
theorem jd_Blender_init_52 : decode mi_Blender_init.2.1 52 = .ok (.dup, 1) := by decide +kernel
theorem jd_Blender_init_53 : decode mi_Blender_init.2.1 53 = .ok (.invokespecial 23, 3) := by decide +kernel
theorem jd_Blender_init_56 : decode mi_Blender_init.2.1 56 = .ok (.putfield 31, 3) := by decide +kernel
theorem jd_Blender_init_59 : decode mi_Blender_init.2.1 59 = .ok (.return_, 1) := by decide +kernel
theorem jd_Merger_init_0 : decode mi_Merger_init.2.1 0 = .ok (.aload_n 0, 1) := by decide +kernel
theorem jd_Merger_init_1 : decode mi_Merger_init.2.1 1 = .ok (.invokespecial 3, 3) := by decide +kernel
theorem jd_Merger_init_4 : decode mi_Merger_init.2.1 4 = .ok (.aload_n 0, 1) := by decide +kernel
theorem jd_Merger_init_5 : decode mi_Merger_init.2.1 5 = .ok (.new 9, 3) := by decide +kernel
theorem jd_Merger_init_8 : decode mi_Merger_init.2.1 8 = .ok (.dup, 1) := by decide +kernel
theorem jd_Merger_init_9 : decode mi_Merger_init.2.1 9 = .ok (.invokespecial 11, 3) := by decide +kernel
theorem jd_Merger_init_12 : decode mi_Merger_init.2.1 12 = .ok (.putfield 12, 3) := by decide +kernel
theorem jd_Merger_init_15 : decode mi_Merger_init.2.1 15 = .ok (.aload_n 0, 1) := by decide +kernel
theorem jd_Merger_init_16 : decode mi_Merger_init.2.1 16 = .ok (.new 18, 3) := by decide +kernel
theorem jd_Merger_init_19 : decode mi_Merger_init.2.1 19 = .ok (.dup, 1) := by decide +kernel
theorem jd_Merger_init_20 : decode mi_Merger_init.2.1 20 = .ok (.invokespecial 20, 3) := by decide +kernel
theorem jd_Merger_init_23 : decode mi_Merger_init.2.1 23 = .ok (.putfield 21, 3) := by decide +kernel
theorem jd_Merger_init_26 : decode mi_Merger_init.2.1 26 = .ok (.aload_n 0, 1) := by decide +kernel
theorem jd_Merger_init_27 : decode mi_Merger_init.2.1 27 = .ok (.new 25, 3) := by decide +kernel
theorem jd_Merger_init_30 : decode mi_Merger_init.2.1 30 = .ok (.dup, 1) := by decide +kernel
theorem jd_Merger_init_31 : decode mi_Merger_init.2.1 31 = .ok (.invokespecial 27, 3) := by decide +kernel
theorem jd_Merger_init_34 : decode mi_Merger_init.2.1 34 = .ok (.putfield 28, 3) := by decide +kernel
theorem jd_Merger_init_37 : decode mi_Merger_init.2.1 37 = .ok (.aload_n 0, 1) := by decide +kernel
theorem jd_Merger_init_38 : decode mi_Merger_init.2.1 38 = .ok (.new 25, 3) := by decide +kernel
theorem jd_Merger_init_41 : decode mi_Merger_init.2.1 41 = .ok (.dup, 1) := by decide +kernel
theorem jd_Merger_init_42 : decode mi_Merger_init.2.1 42 = .ok (.invokespecial 27, 3) := by decide +kernel
theorem jd_Merger_init_45 : decode mi_Merger_init.2.1 45 = .ok (.putfield 32, 3) := by decide +kernel
theorem jd_Merger_init_48 : decode mi_Merger_init.2.1 48 = .ok (.aload_n 0, 1) := by decide +kernel
theorem jd_Merger_init_49 : decode mi_Merger_init.2.1 49 = .ok (.new 35, 3) := by decide +kernel
theorem jd_Merger_init_52 : decode mi_Merger_init.2.1 52 = .ok (.dup, 1) := by decide +kernel
theorem jd_Merger_init_53 : decode mi_Merger_init.2.1 53 = .ok (.invokespecial 37, 3) := by decide +kernel
theorem jd_Merger_init_56 : decode mi_Merger_init.2.1 56 = .ok (.putfield 38, 3) := by decide +kernel
theorem jd_Merger_init_59 : decode mi_Merger_init.2.1 59 = .ok (.aload_n 0, 1) := by decide +kernel
theorem jd_Merger_init_60 : decode mi_Merger_init.2.1 60 = .ok (.new 42, 3) := by decide +kernel
theorem jd_Merger_init_63 : decode mi_Merger_init.2.1 63 = .ok (.dup, 1) := by decide +kernel
theorem jd_Merger_init_64 : decode mi_Merger_init.2.1 64 = .ok (.invokespecial 44, 3) := by decide +kernel
theorem jd_Merger_init_67 : decode mi_Merger_init.2.1 67 = .ok (.putfield 45, 3) := by decide +kernel
theorem jd_Merger_init_70 : decode mi_Merger_init.2.1 70 = .ok (.aload_n 0, 1) := by decide +kernel
theorem jd_Merger_init_71 : decode mi_Merger_init.2.1 71 = .ok (.bipush 12, 2) := by decide +kernel
theorem jd_Merger_init_73 : decode mi_Merger_init.2.1 73 = .ok (.newarray .boolean, 2) := by decide +kernel
theorem jd_Merger_init_75 : decode mi_Merger_init.2.1 75 = .ok (.putfield 49, 3) := by decide +kernel
theorem jd_Merger_init_78 : decode mi_Merger_init.2.1 78 = .ok (.return_, 1) := by decide +kernel
def bi_At (o : jw_O) (μ : jw_Mem) (a n : Nat) (f : Nat → Int32) : Prop := μ a = some (.inl (o.2.2.1 0, n, .inl f))
theorem bi_At.fr {o : jw_O} {μ μ' : jw_Mem} {a n b m : Nat} {f : Nat → Int32} (h : bi_At o μ a n f) (q : jw_Fr μ μ' b m) (hd : a < b ∨ b + m ≤ a) : bi_At o μ' a n f := (q _ (by omega)).trans h
/-- a Match's 4 cells -/
def bm_At (o : jw_O) (μ : jw_Mem) (m : Nat) : Prop := μ m = some (.inr (2, [.ref (m + 1), .ref (m + 2), .ref (m + 3)])) ∧ (∃ f, bi_At o μ (m + 1) 121 f) ∧ (∃ f, bi_At o μ (m + 2) 10 f) ∧ ∃ f, bi_At o μ (m + 3) 10 f
theorem bm_At.fr {o : jw_O} {μ μ' : jw_Mem} {a b m : Nat} (h : bm_At o μ a) (q : jw_Fr μ μ' b m) (hd : a + 4 ≤ b ∨ b + m ≤ a) : bm_At o μ' a := by
  obtain ⟨h1, ⟨f, h2⟩, ⟨g, h3⟩, ⟨e, h4⟩⟩ := h
  exact ⟨(q _ (by omega)).trans h1, ⟨f, h2.fr q (by omega)⟩, ⟨g, h3.fr q (by omega)⟩, ⟨e, h4.fr q (by omega)⟩⟩
def bc_Ex (o : jw_O) (μ : jw_Mem) (a : Nat) : Prop := ∃ n p g, bc_At o μ a n p g ∧ n ≤ 10 ∧ b01 p
theorem bc_Ex.fr {o : jw_O} {μ μ' : jw_Mem} {a b m : Nat} (h : bc_Ex o μ a) (q : jw_Fr μ μ' b m) (hd : a + 2 ≤ b ∨ b + m ≤ a) : bc_Ex o μ' a := by
  obtain ⟨n, p, g, h1, h2⟩ := h
  exact ⟨n, p, g, h1.fr q hd, h2⟩
/-- a Renames' 7 cells -/
def bn_At (o : jw_O) (μ : jw_Mem) (r : Nat) (f s : Nat → Int32) (c : Int32) : Prop := μ r = some (.inr (3, [.ref (r + 1), .ref (r + 2), .ref (r + 3), .int c])) ∧ bi_At o μ (r + 1) 12 f ∧ bi_At o μ (r + 2) 12 s ∧ bm_At o μ (r + 3)
theorem bn_At.fr {o : jw_O} {μ μ' : jw_Mem} {a b m : Nat} {f s : Nat → Int32} {c : Int32} (h : bn_At o μ a f s c) (q : jw_Fr μ μ' b m) (hd : a + 7 ≤ b ∨ b + m ≤ a) : bn_At o μ' a f s c := ⟨(q _ (by omega)).trans h.1, h.2.1.fr q (by omega), h.2.2.1.fr q (by omega), h.2.2.2.fr q (by omega)⟩
/-- a Conflicts' 3 cells -/
def bk_At (o : jw_O) (μ : jw_Mem) (c n : Nat) (f s : Nat → Int32) : Prop := μ c = some (.inr (5, [.ref (c + 1), .ref (c + 2), .int (nI n)])) ∧ bi_At o μ (c + 1) 24 f ∧ bi_At o μ (c + 2) 24 s
theorem bk_At.fr {o : jw_O} {μ μ' : jw_Mem} {a n b m : Nat} {f s : Nat → Int32} (h : bk_At o μ a n f s) (q : jw_Fr μ μ' b m) (hd : a + 3 ≤ b ∨ b + m ≤ a) : bk_At o μ' a n f s := ⟨(q _ (by omega)).trans h.1, h.2.1.fr q (by omega), h.2.2.fr q (by omega)⟩
/-- a Blender's 15 cells -/
def bb_At (o : jw_O) (μ : jw_Mem) (b : Nat) : Prop := μ b = some (.inr (4, [.ref (b + 1), .ref (b + 5), .ref (b + 9), .ref (b + 11), .ref (b + 13)])) ∧ bm_At o μ (b + 1) ∧ bm_At o μ (b + 5) ∧ bc_Ex o μ (b + 9) ∧ bc_Ex o μ (b + 11) ∧ bc_Ex o μ (b + 13)
theorem bb_At.fr {o : jw_O} {μ μ' : jw_Mem} {a b m : Nat} (h : bb_At o μ a) (q : jw_Fr μ μ' b m) (hd : a + 15 ≤ b ∨ b + m ≤ a) : bb_At o μ' a := ⟨(q _ (by omega)).trans h.1, h.2.1.fr q (by omega), h.2.2.1.fr q (by omega), h.2.2.2.1.fr q (by omega), h.2.2.2.2.1.fr q (by omega), h.2.2.2.2.2.fr q (by omega)⟩
section
variable {o : jw_O} {μ : jw_Mem} {hs a : Nat}
theorem bm_init {x y z : Value} (h0 : μ a = some (.inr (2, [x, y, z]))) : jw_Spec mi_Match_init 1 3 141 o [.ref a] μ (a + 1) (fun v μ' s' => v = none ∧ s' = a + 4 ∧ bm_At o μ' a ∧ jw_Fr μ μ' a 4) := by
  refine jw_spec (by decide +kernel) (Nat.le_of_ble_eq_true rfl) rfl (fun k hR hE => ?_)
  have hF : jw_Fr μ μ a 4 := jw_Fr.rf
  refine jw_aload_n (pc' := 1) jd_Match_init_0 rfl rfl rfl ?_
  refine jw_objInit (pc' := 4) hR jq_199 jd_Match_init_1 (Nat.le_of_ble_eq_true rfl) (by omega) rfl ?_
  refine jw_aload_n (pc' := 5) jd_Match_init_4 rfl rfl rfl ?_
  refine jw_bipush (pc' := 7) (v := nI 121) jd_Match_init_5 (by decide +kernel) rfl ?_
  refine jw_newa (pc' := 9) (N := 121) (i := 0) (a0 := (121, .inl (fun _ => 0))) (ty := .int) (atype := .int) hR jq_116 rfl rfl jd_Match_init_7 (fun _ => rfl) (by decide +kernel) (by decide +kernel) (by decide +kernel) (by omega) (by omega) rfl (fun μ h1 f9 => ?_)
  have h0 := (f9 _ (by omega)).trans h0
  have hF := jw_Fr.step hF f9 (by omega)
  refine jw_putF (pc' := 12) (kf := 0) (ty := (.array .int)) (fs' := [_, _, _]) jc_Match (by decide) jq_200 jd_Match_init_9 rfl rfl rfl (by decide +kernel) (by assumption) rfl rfl rfl (Nat.le_of_ble_eq_true rfl) rfl (fun μ h0 f9 => ?_)
  have h1 := (f9 _ (by omega)).trans h1
  have hF := jw_Fr.step hF f9 (by omega)
  refine jw_aload_n (pc' := 13) jd_Match_init_12 rfl rfl rfl ?_
  refine jw_bipush (pc' := 15) (v := nI 10) jd_Match_init_13 (by decide +kernel) rfl ?_
  refine jw_newa (pc' := 17) (N := 10) (i := 0) (a0 := (10, .inl (fun _ => 0))) (ty := .int) (atype := .int) hR jq_116 rfl rfl jd_Match_init_15 (fun _ => rfl) (by decide +kernel) (by decide +kernel) (by decide +kernel) (by omega) (by omega) rfl (fun μ h2 f9 => ?_)
  have h0 := (f9 _ (by omega)).trans h0
  have h1 := (f9 _ (by omega)).trans h1
  have hF := jw_Fr.step hF f9 (by omega)
  refine jw_putF (pc' := 20) (kf := 1) (ty := (.array .int)) (fs' := [_, _, _]) jc_Match (by decide) jq_201 jd_Match_init_17 rfl rfl rfl (by decide +kernel) (by assumption) rfl rfl rfl (Nat.le_of_ble_eq_true rfl) rfl (fun μ h0 f9 => ?_)
  have h1 := (f9 _ (by omega)).trans h1
  have h2 := (f9 _ (by omega)).trans h2
  have hF := jw_Fr.step hF f9 (by omega)
  refine jw_aload_n (pc' := 21) jd_Match_init_20 rfl rfl rfl ?_
  refine jw_bipush (pc' := 23) (v := nI 10) jd_Match_init_21 (by decide +kernel) rfl ?_
  refine jw_newa (pc' := 25) (N := 10) (i := 0) (a0 := (10, .inl (fun _ => 0))) (ty := .int) (atype := .int) hR jq_116 rfl rfl jd_Match_init_23 (fun _ => rfl) (by decide +kernel) (by decide +kernel) (by decide +kernel) (by omega) (by omega) rfl (fun μ h3 f9 => ?_)
  have h0 := (f9 _ (by omega)).trans h0
  have h1 := (f9 _ (by omega)).trans h1
  have h2 := (f9 _ (by omega)).trans h2
  have hF := jw_Fr.step hF f9 (by omega)
  refine jw_putF (pc' := 28) (kf := 2) (ty := (.array .int)) (fs' := [_, _, _]) jc_Match (by decide) jq_202 jd_Match_init_25 rfl rfl rfl (by decide +kernel) (by assumption) rfl rfl rfl (Nat.le_of_ble_eq_true rfl) rfl (fun μ h0 f9 => ?_)
  have h1 := (f9 _ (by omega)).trans h1
  have h2 := (f9 _ (by omega)).trans h2
  have h3 := (f9 _ (by omega)).trans h3
  have hF := jw_Fr.step hF f9 (by omega)
  refine jw_vret hE jd_Match_init_28 rfl (by omega) (by omega) ?_
  exact ⟨rfl, rfl, ⟨h0, ⟨_, h1⟩, ⟨_, h2⟩, ⟨_, h3⟩⟩, hF⟩
theorem bn_init {x y z : Value} {w : Int32} (h0 : μ a = some (.inr (3, [x, y, z, .int w]))) : jw_Spec mi_Renames_init 2 6 168 o [.ref a] μ (a + 1) (fun v μ' s' => v = none ∧ s' = a + 7 ∧ bn_At o μ' a (fun _ => 0) (fun _ => 0) 0 ∧ jw_Fr μ μ' a 7) := by
  refine jw_spec (by decide +kernel) (Nat.le_of_ble_eq_true rfl) rfl (fun k hR hE => ?_)
  have hF : jw_Fr μ μ a 7 := jw_Fr.rf
  refine jw_aload_n (pc' := 1) jd_Renames_init_0 rfl rfl rfl ?_
  refine jw_objInit (pc' := 4) hR jq_193 jd_Renames_init_1 (Nat.le_of_ble_eq_true rfl) (by omega) rfl ?_
  refine jw_aload_n (pc' := 5) jd_Renames_init_4 rfl rfl rfl ?_
  refine jw_bipush (pc' := 7) (v := nI 12) jd_Renames_init_5 (by decide +kernel) rfl ?_
  refine jw_newa (pc' := 9) (N := 12) (i := 0) (a0 := (12, .inl (fun _ => 0))) (ty := .int) (atype := .int) hR jq_116 rfl rfl jd_Renames_init_7 (fun _ => rfl) (by decide +kernel) (by decide +kernel) (by decide +kernel) (by omega) (by omega) rfl (fun μ h1 f9 => ?_)
  have h0 := (f9 _ (by omega)).trans h0
  have hF := jw_Fr.step hF f9 (by omega)
  refine jw_putF (pc' := 12) (kf := 0) (ty := (.array .int)) (fs' := [_, _, _, _]) jc_Renames (by decide) jq_210 jd_Renames_init_9 rfl rfl rfl (by decide +kernel) (by assumption) rfl rfl rfl (Nat.le_of_ble_eq_true rfl) rfl (fun μ h0 f9 => ?_)
  have h1 := (f9 _ (by omega)).trans h1
  have hF := jw_Fr.step hF f9 (by omega)
  refine jw_aload_n (pc' := 13) jd_Renames_init_12 rfl rfl rfl ?_
  refine jw_bipush (pc' := 15) (v := nI 12) jd_Renames_init_13 (by decide +kernel) rfl ?_
  refine jw_newa (pc' := 17) (N := 12) (i := 0) (a0 := (12, .inl (fun _ => 0))) (ty := .int) (atype := .int) hR jq_116 rfl rfl jd_Renames_init_15 (fun _ => rfl) (by decide +kernel) (by decide +kernel) (by decide +kernel) (by omega) (by omega) rfl (fun μ h2 f9 => ?_)
  have h0 := (f9 _ (by omega)).trans h0
  have h1 := (f9 _ (by omega)).trans h1
  have hF := jw_Fr.step hF f9 (by omega)
  refine jw_putF (pc' := 20) (kf := 1) (ty := (.array .int)) (fs' := [_, _, _, _]) jc_Renames (by decide) jq_211 jd_Renames_init_17 rfl rfl rfl (by decide +kernel) (by assumption) rfl rfl rfl (Nat.le_of_ble_eq_true rfl) rfl (fun μ h0 f9 => ?_)
  have h1 := (f9 _ (by omega)).trans h1
  have h2 := (f9 _ (by omega)).trans h2
  have hF := jw_Fr.step hF f9 (by omega)
  refine jw_aload_n (pc' := 21) jd_Renames_init_20 rfl rfl rfl ?_
  refine jw_new (pc' := 24) (fs := [.null, .null, .null]) hR jc_Match jq_194 jq_195 jq_62 jd_Renames_init_21 (by decide +kernel) (by omega) (by omega) rfl (fun μ h3 f9 => ?_)
  have h0 := (f9 _ (by omega)).trans h0
  have h1 := (f9 _ (by omega)).trans h1
  have h2 := (f9 _ (by omega)).trans h2
  have hF := jw_Fr.step hF f9 (by omega)
  refine jw_dup (pc' := 25) jd_Renames_init_24 rfl rfl ?_
  refine jw_callIN (pc' := 28) hR (bm_init h3) jm_Match_init jn_Renames_20 jd_Renames_init_25 rfl rfl (Nat.le_of_ble_eq_true rfl) (by omega) (by decide) (by omega) (by omega) rfl (fun v μ s9 q9 hle => ?_)
  obtain ⟨rfl, rfl, hM, f9⟩ := q9
  have hF := hF.trans f9 (by omega) (by omega)
  have h0 := (f9 _ (by omega)).trans h0
  have h1 := (f9 _ (by omega)).trans h1
  have h2 := (f9 _ (by omega)).trans h2
  refine jw_putF (pc' := 31) (kf := 2) (ty := (.object "Branchwork$Match")) (fs' := [_, _, _, _]) jc_Renames (by decide) jq_212 jd_Renames_init_28 rfl rfl rfl (by decide +kernel) (by assumption) rfl rfl rfl (Nat.le_of_ble_eq_true rfl) rfl (fun μ h0 f9 => ?_)
  have h1 := (f9 _ (by omega)).trans h1
  have h2 := (f9 _ (by omega)).trans h2
  have hF := jw_Fr.step hF f9 (by omega)
  have hM := hM.fr (jw_Fr.o f9) (by omega)
  refine jw_aload_n (pc' := 32) jd_Renames_init_31 rfl rfl rfl ?_
  refine jw_iconst (pc' := 33) (v := nI 0) jd_Renames_init_32 (by decide +kernel) rfl ?_
  refine jw_put (pc' := 36) (kf := 3) (ty := .int) (fs' := [_, _, _, _]) jc_Renames (by decide) jq_213 jd_Renames_init_33 rfl (by decide +kernel) (by assumption) rfl rfl rfl (Nat.le_of_ble_eq_true rfl) rfl (fun μ h0 f9 => ?_)
  have h1 := (f9 _ (by omega)).trans h1
  have h2 := (f9 _ (by omega)).trans h2
  have hF := jw_Fr.step hF f9 (by omega)
  have hM := hM.fr (jw_Fr.o f9) (by omega)
  refine jw_vret hE jd_Renames_init_36 rfl (by omega) (by omega) ?_
  exact ⟨rfl, rfl, ⟨h0, h1, h2, hM⟩, hF⟩
theorem bk_init {x y : Value} {w : Int32} (h0 : μ a = some (.inr (5, [x, y, .int w]))) : jw_Spec mi_Conflicts_init 1 2 48 o [.ref a] μ (a + 1) (fun v μ' s' => v = none ∧ s' = a + 3 ∧ bk_At o μ' a 0 (fun _ => 0) (fun _ => 0) ∧ jw_Fr μ μ' a 3) := by
  refine jw_spec (by decide +kernel) (Nat.le_of_ble_eq_true rfl) rfl (fun k hR hE => ?_)
  have hF : jw_Fr μ μ a 3 := jw_Fr.rf
  refine jw_aload_n (pc' := 1) jd_Conflicts_init_0 rfl rfl rfl ?_
  refine jw_objInit (pc' := 4) hR jq_177 jd_Conflicts_init_1 (Nat.le_of_ble_eq_true rfl) (by omega) rfl ?_
  refine jw_aload_n (pc' := 5) jd_Conflicts_init_4 rfl rfl rfl ?_
  refine jw_bipush (pc' := 7) (v := nI 24) jd_Conflicts_init_5 (by decide +kernel) rfl ?_
  refine jw_newa (pc' := 9) (N := 24) (i := 0) (a0 := (24, .inl (fun _ => 0))) (ty := .int) (atype := .int) hR jq_116 rfl rfl jd_Conflicts_init_7 (fun _ => rfl) (by decide +kernel) (by decide +kernel) (by decide +kernel) (by omega) (by omega) rfl (fun μ h1 f9 => ?_)
  have h0 := (f9 _ (by omega)).trans h0
  have hF := jw_Fr.step hF f9 (by omega)
  refine jw_putF (pc' := 12) (kf := 0) (ty := (.array .int)) (fs' := [_, _, _]) jc_Conflicts (by decide) jq_178 jd_Conflicts_init_9 rfl rfl rfl (by decide +kernel) (by assumption) rfl rfl rfl (Nat.le_of_ble_eq_true rfl) rfl (fun μ h0 f9 => ?_)
  have h1 := (f9 _ (by omega)).trans h1
  have hF := jw_Fr.step hF f9 (by omega)
  refine jw_aload_n (pc' := 13) jd_Conflicts_init_12 rfl rfl rfl ?_
  refine jw_bipush (pc' := 15) (v := nI 24) jd_Conflicts_init_13 (by decide +kernel) rfl ?_
  refine jw_newa (pc' := 17) (N := 24) (i := 0) (a0 := (24, .inl (fun _ => 0))) (ty := .int) (atype := .int) hR jq_116 rfl rfl jd_Conflicts_init_15 (fun _ => rfl) (by decide +kernel) (by decide +kernel) (by decide +kernel) (by omega) (by omega) rfl (fun μ h2 f9 => ?_)
  have h0 := (f9 _ (by omega)).trans h0
  have h1 := (f9 _ (by omega)).trans h1
  have hF := jw_Fr.step hF f9 (by omega)
  refine jw_putF (pc' := 20) (kf := 1) (ty := (.array .int)) (fs' := [_, _, _]) jc_Conflicts (by decide) jq_179 jd_Conflicts_init_17 rfl rfl rfl (by decide +kernel) (by assumption) rfl rfl rfl (Nat.le_of_ble_eq_true rfl) rfl (fun μ h0 f9 => ?_)
  have h1 := (f9 _ (by omega)).trans h1
  have h2 := (f9 _ (by omega)).trans h2
  have hF := jw_Fr.step hF f9 (by omega)
  refine jw_aload_n (pc' := 21) jd_Conflicts_init_20 rfl rfl rfl ?_
  refine jw_iconst (pc' := 22) (v := nI 0) jd_Conflicts_init_21 (by decide +kernel) rfl ?_
  refine jw_put (pc' := 25) (kf := 2) (ty := .int) (fs' := [_, _, _]) jc_Conflicts (by decide) jq_180 jd_Conflicts_init_22 rfl (by decide +kernel) (by assumption) rfl rfl rfl (Nat.le_of_ble_eq_true rfl) rfl (fun μ h0 f9 => ?_)
  have h1 := (f9 _ (by omega)).trans h1
  have h2 := (f9 _ (by omega)).trans h2
  have hF := jw_Fr.step hF f9 (by omega)
  refine jw_vret hE jd_Conflicts_init_25 rfl (by omega) (by omega) ?_
  exact ⟨rfl, rfl, ⟨h0, h1, h2⟩, hF⟩
theorem bb_init {v w x y z : Value} (h0 : μ a = some (.inr (4, [v, w, x, y, z]))) : jw_Spec mi_Blender_init 2 14 327 o [.ref a] μ (a + 1) (fun v μ' s' => v = none ∧ s' = a + 15 ∧ bb_At o μ' a ∧ jw_Fr μ μ' a 15) := by
  refine jw_spec (by decide +kernel) (Nat.le_of_ble_eq_true rfl) rfl (fun k hR hE => ?_)
  have hF : jw_Fr μ μ a 15 := jw_Fr.rf
  refine jw_aload_n (pc' := 1) jd_Blender_init_0 rfl rfl rfl ?_
  refine jw_objInit (pc' := 4) hR jq_228 jd_Blender_init_1 (Nat.le_of_ble_eq_true rfl) (by omega) rfl ?_
  refine jw_aload_n (pc' := 5) jd_Blender_init_4 rfl rfl rfl ?_
  refine jw_new (pc' := 8) (fs := [.null, .null, .null]) hR jc_Match jq_229 jq_195 jq_62 jd_Blender_init_5 (by decide +kernel) (by omega) (by omega) rfl (fun μ h1 f9 => ?_)
  have h0 := (f9 _ (by omega)).trans h0
  have hF := jw_Fr.step hF f9 (by omega)
  refine jw_dup (pc' := 9) jd_Blender_init_8 rfl rfl ?_
  refine jw_callIN (pc' := 12) hR (bm_init h1) jm_Match_init jn_Blender_11 jd_Blender_init_9 rfl rfl (Nat.le_of_ble_eq_true rfl) (by omega) (by decide) (by omega) (by omega) rfl (fun v μ s9 q9 hle => ?_)
  obtain ⟨rfl, rfl, hM1, f9⟩ := q9
  have hF := hF.trans f9 (by omega) (by omega)
  have h0 := (f9 _ (by omega)).trans h0
  refine jw_putF (pc' := 15) (kf := 0) (ty := (.object "Branchwork$Match")) (fs' := [_, _, _, _, _]) jc_Blender (by decide) jq_233 jd_Blender_init_12 rfl rfl rfl (by decide +kernel) (by assumption) rfl rfl rfl (Nat.le_of_ble_eq_true rfl) rfl (fun μ h0 f9 => ?_)
  have hF := jw_Fr.step hF f9 (by omega)
  have hM1 := hM1.fr (jw_Fr.o f9) (by omega)
  refine jw_aload_n (pc' := 16) jd_Blender_init_15 rfl rfl rfl ?_
  refine jw_new (pc' := 19) (fs := [.null, .null, .null]) hR jc_Match jq_229 jq_195 jq_62 jd_Blender_init_16 (by decide +kernel) (by omega) (by omega) rfl (fun μ h1 f9 => ?_)
  have h0 := (f9 _ (by omega)).trans h0
  have hF := jw_Fr.step hF f9 (by omega)
  have hM1 := hM1.fr (jw_Fr.o f9) (by omega)
  refine jw_dup (pc' := 20) jd_Blender_init_19 rfl rfl ?_
  refine jw_callIN (pc' := 23) hR (bm_init h1) jm_Match_init jn_Blender_11 jd_Blender_init_20 rfl rfl (Nat.le_of_ble_eq_true rfl) (by omega) (by decide) (by omega) (by omega) rfl (fun v μ s9 q9 hle => ?_)
  obtain ⟨rfl, rfl, hM2, f9⟩ := q9
  have hF := hF.trans f9 (by omega) (by omega)
  have h0 := (f9 _ (by omega)).trans h0
  have hM1 := hM1.fr f9 (by omega)
  refine jw_putF (pc' := 26) (kf := 1) (ty := (.object "Branchwork$Match")) (fs' := [_, _, _, _, _]) jc_Blender (by decide) jq_234 jd_Blender_init_23 rfl rfl rfl (by decide +kernel) (by assumption) rfl rfl rfl (Nat.le_of_ble_eq_true rfl) rfl (fun μ h0 f9 => ?_)
  have hF := jw_Fr.step hF f9 (by omega)
  have hM1 := hM1.fr (jw_Fr.o f9) (by omega)
  have hM2 := hM2.fr (jw_Fr.o f9) (by omega)
  refine jw_aload_n (pc' := 27) jd_Blender_init_26 rfl rfl rfl ?_
  refine jw_new (pc' := 30) (fs := [.null, .int 0, .int 0]) hR jc_Content jq_231 jq_101 jq_57 jd_Blender_init_27 (by decide +kernel) (by omega) (by omega) rfl (fun μ h1 f9 => ?_)
  have h0 := (f9 _ (by omega)).trans h0
  have hF := jw_Fr.step hF f9 (by omega)
  have hM1 := hM1.fr (jw_Fr.o f9) (by omega)
  have hM2 := hM2.fr (jw_Fr.o f9) (by omega)
  refine jw_dup (pc' := 31) jd_Blender_init_30 rfl rfl ?_
  refine jw_callIN (pc' := 34) hR (bc_init h1) jm_Content_init jn_Blender_23 jd_Blender_init_31 rfl rfl (Nat.le_of_ble_eq_true rfl) (by omega) (by decide) (by omega) (by omega) rfl (fun v μ s9 q9 hle => ?_)
  obtain ⟨rfl, rfl, hC1, f9⟩ := q9
  have hF := hF.trans f9 (by omega) (by omega)
  have h0 := (f9 _ (by omega)).trans h0
  have hM1 := hM1.fr f9 (by omega)
  have hM2 := hM2.fr f9 (by omega)
  refine jw_putF (pc' := 37) (kf := 2) (ty := (.object "Branchwork$Content")) (fs' := [_, _, _, _, _]) jc_Blender (by decide) jq_235 jd_Blender_init_34 rfl rfl rfl (by decide +kernel) (by assumption) rfl rfl rfl (Nat.le_of_ble_eq_true rfl) rfl (fun μ h0 f9 => ?_)
  have hF := jw_Fr.step hF f9 (by omega)
  have hM1 := hM1.fr (jw_Fr.o f9) (by omega)
  have hM2 := hM2.fr (jw_Fr.o f9) (by omega)
  have hC1 := hC1.fr (jw_Fr.o f9) (by omega)
  refine jw_aload_n (pc' := 38) jd_Blender_init_37 rfl rfl rfl ?_
  refine jw_new (pc' := 41) (fs := [.null, .int 0, .int 0]) hR jc_Content jq_231 jq_101 jq_57 jd_Blender_init_38 (by decide +kernel) (by omega) (by omega) rfl (fun μ h1 f9 => ?_)
  have h0 := (f9 _ (by omega)).trans h0
  have hF := jw_Fr.step hF f9 (by omega)
  have hM1 := hM1.fr (jw_Fr.o f9) (by omega)
  have hM2 := hM2.fr (jw_Fr.o f9) (by omega)
  have hC1 := hC1.fr (jw_Fr.o f9) (by omega)
  refine jw_dup (pc' := 42) jd_Blender_init_41 rfl rfl ?_
  refine jw_callIN (pc' := 45) hR (bc_init h1) jm_Content_init jn_Blender_23 jd_Blender_init_42 rfl rfl (Nat.le_of_ble_eq_true rfl) (by omega) (by decide) (by omega) (by omega) rfl (fun v μ s9 q9 hle => ?_)
  obtain ⟨rfl, rfl, hC2, f9⟩ := q9
  have hF := hF.trans f9 (by omega) (by omega)
  have h0 := (f9 _ (by omega)).trans h0
  have hM1 := hM1.fr f9 (by omega)
  have hM2 := hM2.fr f9 (by omega)
  have hC1 := hC1.fr f9 (by omega)
  refine jw_putF (pc' := 48) (kf := 3) (ty := (.object "Branchwork$Content")) (fs' := [_, _, _, _, _]) jc_Blender (by decide) jq_236 jd_Blender_init_45 rfl rfl rfl (by decide +kernel) (by assumption) rfl rfl rfl (Nat.le_of_ble_eq_true rfl) rfl (fun μ h0 f9 => ?_)
  have hF := jw_Fr.step hF f9 (by omega)
  have hM1 := hM1.fr (jw_Fr.o f9) (by omega)
  have hM2 := hM2.fr (jw_Fr.o f9) (by omega)
  have hC1 := hC1.fr (jw_Fr.o f9) (by omega)
  have hC2 := hC2.fr (jw_Fr.o f9) (by omega)
  refine jw_aload_n (pc' := 49) jd_Blender_init_48 rfl rfl rfl ?_
  refine jw_new (pc' := 52) (fs := [.null, .int 0, .int 0]) hR jc_Content jq_231 jq_101 jq_57 jd_Blender_init_49 (by decide +kernel) (by omega) (by omega) rfl (fun μ h1 f9 => ?_)
  have h0 := (f9 _ (by omega)).trans h0
  have hF := jw_Fr.step hF f9 (by omega)
  have hM1 := hM1.fr (jw_Fr.o f9) (by omega)
  have hM2 := hM2.fr (jw_Fr.o f9) (by omega)
  have hC1 := hC1.fr (jw_Fr.o f9) (by omega)
  have hC2 := hC2.fr (jw_Fr.o f9) (by omega)
  refine jw_dup (pc' := 53) jd_Blender_init_52 rfl rfl ?_
  refine jw_callIN (pc' := 56) hR (bc_init h1) jm_Content_init jn_Blender_23 jd_Blender_init_53 rfl rfl (Nat.le_of_ble_eq_true rfl) (by omega) (by decide) (by omega) (by omega) rfl (fun v μ s9 q9 hle => ?_)
  obtain ⟨rfl, rfl, hC3, f9⟩ := q9
  have hF := hF.trans f9 (by omega) (by omega)
  have h0 := (f9 _ (by omega)).trans h0
  have hM1 := hM1.fr f9 (by omega)
  have hM2 := hM2.fr f9 (by omega)
  have hC1 := hC1.fr f9 (by omega)
  have hC2 := hC2.fr f9 (by omega)
  refine jw_putF (pc' := 59) (kf := 4) (ty := (.object "Branchwork$Content")) (fs' := [_, _, _, _, _]) jc_Blender (by decide) jq_237 jd_Blender_init_56 rfl rfl rfl (by decide +kernel) (by assumption) rfl rfl rfl (Nat.le_of_ble_eq_true rfl) rfl (fun μ h0 f9 => ?_)
  have hF := jw_Fr.step hF f9 (by omega)
  have hM1 := hM1.fr (jw_Fr.o f9) (by omega)
  have hM2 := hM2.fr (jw_Fr.o f9) (by omega)
  have hC1 := hC1.fr (jw_Fr.o f9) (by omega)
  have hC2 := hC2.fr (jw_Fr.o f9) (by omega)
  have hC3 := hC3.fr (jw_Fr.o f9) (by omega)
  refine jw_vret hE jd_Blender_init_59 rfl (by omega) (by omega) ?_
  exact ⟨rfl, rfl, ⟨h0, hM1, hM2, ⟨_, _, _, hC1, Nat.zero_le _, Or.inl rfl⟩, ⟨_, _, _, hC2, Nat.zero_le _, Or.inl rfl⟩, ⟨_, _, _, hC3, Nat.zero_le _, Or.inl rfl⟩⟩, hF⟩
/-- a Merger's 64 cells, with its tree and its conflicts -/
def bg_At (o : jw_O) (μ : jw_Mem) (g : Nat) (N : Nat → Nat) (Z : Nat → Int32) (G : Nat → Nat → Int32) (n : Nat) (cf cs : Nat → Int32) : Prop := μ g = some (.inr (6, [.ref (g + 1), .ref (g + 29), .ref (g + 32), .ref (g + 39), .ref (g + 46), .ref (g + 61), .ref (g + 63)])) ∧ bt_At o μ (g + 1) N Z G ∧ bk_At o μ (g + 29) n cf cs ∧ (∃ f s c, bn_At o μ (g + 32) f s c) ∧ (∃ f s c, bn_At o μ (g + 39) f s c) ∧ bb_At o μ (g + 46) ∧ bc_At o μ (g + 61) 0 0 (fun _ => 0) ∧ ∃ f, μ (g + 63) = some (.inl (o.2.2.1 1, 12, .inl f))
theorem bg_At.fr {o : jw_O} {μ μ' : jw_Mem} {a b m n : Nat} {N : Nat → Nat} {Z : Nat → Int32} {G : Nat → Nat → Int32} {cf cs : Nat → Int32} (h : bg_At o μ a N Z G n cf cs) (q : jw_Fr μ μ' b m) (hd : a + 64 ≤ b ∨ b + m ≤ a) : bg_At o μ' a N Z G n cf cs := by
  obtain ⟨h1, h2, h3, ⟨_, _, _, h4⟩, ⟨_, _, _, h5⟩, h6, h7, ⟨_, h8⟩⟩ := h
  exact ⟨(q _ (by omega)).trans h1, h2.fr q (by omega), h3.fr q (by omega), ⟨_, _, _, h4.fr q (by omega)⟩, ⟨_, _, _, h5.fr q (by omega)⟩, h6.fr q (by omega), h7.fr q (by omega), ⟨_, (q _ (by omega)).trans h8⟩⟩
theorem bg_init {t v w x y z u : Value} (h0 : μ a = some (.inr (6, [t, v, w, x, y, z, u]))) : jw_Spec mi_Merger_init 3 63 935 o [.ref a] μ (a + 1) (fun v μ' s' => v = none ∧ s' = a + 64 ∧ bg_At o μ' a (fun _ => 0) (fun _ => 0) (fun _ _ => 0) 0 (fun _ => 0) (fun _ => 0) ∧ jw_Fr μ μ' a 64) := by
  refine jw_spec (by decide +kernel) (Nat.le_of_ble_eq_true rfl) rfl (fun k hR hE => ?_)
  have hF : jw_Fr μ μ a 64 := jw_Fr.rf
  refine jw_aload_n (pc' := 1) jd_Merger_init_0 rfl rfl rfl ?_
  refine jw_objInit (pc' := 4) hR jq_169 jd_Merger_init_1 (Nat.le_of_ble_eq_true rfl) (by omega) rfl ?_
  refine jw_aload_n (pc' := 5) jd_Merger_init_4 rfl rfl rfl ?_
  refine jw_new (pc' := 8) (fs := [.null, .null]) hR jc_Tree jq_170 jq_94 jq_56 jd_Merger_init_5 (by decide +kernel) (by omega) (by omega) rfl (fun μ h1 f9 => ?_)
  have h0 := (f9 _ (by omega)).trans h0
  have hF := jw_Fr.step hF f9 (by omega)
  refine jw_dup (pc' := 9) jd_Merger_init_8 rfl rfl ?_
  refine jw_callI (pc' := 12) hR (bt_init h1) jm_Tree_init jq_171 jd_Merger_init_9 rfl rfl (Nat.le_of_ble_eq_true rfl) (by omega) (by decide) (by omega) (by omega) rfl (fun v μ s9 q9 hle => ?_)
  obtain ⟨rfl, rfl, hT, f9⟩ := q9
  have hF := hF.trans f9 (by omega) (by omega)
  have h0 := (f9 _ (by omega)).trans h0
  refine jw_putF (pc' := 15) (kf := 0) (ty := (.object "Branchwork$Tree")) (fs' := [_, _, _, _, _, _, _]) jc_Merger (by decide) jq_251 jd_Merger_init_12 rfl rfl rfl (by decide +kernel) (by assumption) rfl rfl rfl (Nat.le_of_ble_eq_true rfl) rfl (fun μ h0 f9 => ?_)
  have hF := jw_Fr.step hF f9 (by omega)
  have hT := hT.fr (jw_Fr.o f9) (by omega)
  refine jw_aload_n (pc' := 16) jd_Merger_init_15 rfl rfl rfl ?_
  refine jw_new (pc' := 19) (fs := [.null, .null, .int 0]) hR jc_Conflicts jq_172 jq_173 jq_60 jd_Merger_init_16 (by decide +kernel) (by omega) (by omega) rfl (fun μ h1 f9 => ?_)
  have h0 := (f9 _ (by omega)).trans h0
  have hF := jw_Fr.step hF f9 (by omega)
  have hT := hT.fr (jw_Fr.o f9) (by omega)
  refine jw_dup (pc' := 20) jd_Merger_init_19 rfl rfl ?_
  refine jw_callIN (pc' := 23) hR (bk_init h1) jm_Conflicts_init jn_Merger_20 jd_Merger_init_20 rfl rfl (Nat.le_of_ble_eq_true rfl) (by omega) (by decide) (by omega) (by omega) rfl (fun v μ s9 q9 hle => ?_)
  obtain ⟨rfl, rfl, hK, f9⟩ := q9
  have hF := hF.trans f9 (by omega) (by omega)
  have h0 := (f9 _ (by omega)).trans h0
  have hT := hT.fr f9 (by omega)
  refine jw_putF (pc' := 26) (kf := 1) (ty := (.object "Branchwork$Conflicts")) (fs' := [_, _, _, _, _, _, _]) jc_Merger (by decide) jq_252 jd_Merger_init_23 rfl rfl rfl (by decide +kernel) (by assumption) rfl rfl rfl (Nat.le_of_ble_eq_true rfl) rfl (fun μ h0 f9 => ?_)
  have hF := jw_Fr.step hF f9 (by omega)
  have hT := hT.fr (jw_Fr.o f9) (by omega)
  have hK := hK.fr (jw_Fr.o f9) (by omega)
  refine jw_aload_n (pc' := 27) jd_Merger_init_26 rfl rfl rfl ?_
  refine jw_new (pc' := 30) (fs := [.null, .null, .null, .int 0]) hR jc_Renames jq_188 jq_189 jq_61 jd_Merger_init_27 (by decide +kernel) (by omega) (by omega) rfl (fun μ h1 f9 => ?_)
  have h0 := (f9 _ (by omega)).trans h0
  have hF := jw_Fr.step hF f9 (by omega)
  have hT := hT.fr (jw_Fr.o f9) (by omega)
  have hK := hK.fr (jw_Fr.o f9) (by omega)
  refine jw_dup (pc' := 31) jd_Merger_init_30 rfl rfl ?_
  refine jw_callIN (pc' := 34) hR (bn_init h1) jm_Renames_init jn_Merger_27 jd_Merger_init_31 rfl rfl (Nat.le_of_ble_eq_true rfl) (by omega) (by decide) (by omega) (by omega) rfl (fun v μ s9 q9 hle => ?_)
  obtain ⟨rfl, rfl, hN1, f9⟩ := q9
  have hF := hF.trans f9 (by omega) (by omega)
  have h0 := (f9 _ (by omega)).trans h0
  have hT := hT.fr f9 (by omega)
  have hK := hK.fr f9 (by omega)
  refine jw_putF (pc' := 37) (kf := 2) (ty := (.object "Branchwork$Renames")) (fs' := [_, _, _, _, _, _, _]) jc_Merger (by decide) jq_253 jd_Merger_init_34 rfl rfl rfl (by decide +kernel) (by assumption) rfl rfl rfl (Nat.le_of_ble_eq_true rfl) rfl (fun μ h0 f9 => ?_)
  have hF := jw_Fr.step hF f9 (by omega)
  have hT := hT.fr (jw_Fr.o f9) (by omega)
  have hK := hK.fr (jw_Fr.o f9) (by omega)
  have hN1 := hN1.fr (jw_Fr.o f9) (by omega)
  refine jw_aload_n (pc' := 38) jd_Merger_init_37 rfl rfl rfl ?_
  refine jw_new (pc' := 41) (fs := [.null, .null, .null, .int 0]) hR jc_Renames jq_188 jq_189 jq_61 jd_Merger_init_38 (by decide +kernel) (by omega) (by omega) rfl (fun μ h1 f9 => ?_)
  have h0 := (f9 _ (by omega)).trans h0
  have hF := jw_Fr.step hF f9 (by omega)
  have hT := hT.fr (jw_Fr.o f9) (by omega)
  have hK := hK.fr (jw_Fr.o f9) (by omega)
  have hN1 := hN1.fr (jw_Fr.o f9) (by omega)
  refine jw_dup (pc' := 42) jd_Merger_init_41 rfl rfl ?_
  refine jw_callIN (pc' := 45) hR (bn_init h1) jm_Renames_init jn_Merger_27 jd_Merger_init_42 rfl rfl (Nat.le_of_ble_eq_true rfl) (by omega) (by decide) (by omega) (by omega) rfl (fun v μ s9 q9 hle => ?_)
  obtain ⟨rfl, rfl, hN2, f9⟩ := q9
  have hF := hF.trans f9 (by omega) (by omega)
  have h0 := (f9 _ (by omega)).trans h0
  have hT := hT.fr f9 (by omega)
  have hK := hK.fr f9 (by omega)
  have hN1 := hN1.fr f9 (by omega)
  refine jw_putF (pc' := 48) (kf := 3) (ty := (.object "Branchwork$Renames")) (fs' := [_, _, _, _, _, _, _]) jc_Merger (by decide) jq_254 jd_Merger_init_45 rfl rfl rfl (by decide +kernel) (by assumption) rfl rfl rfl (Nat.le_of_ble_eq_true rfl) rfl (fun μ h0 f9 => ?_)
  have hF := jw_Fr.step hF f9 (by omega)
  have hT := hT.fr (jw_Fr.o f9) (by omega)
  have hK := hK.fr (jw_Fr.o f9) (by omega)
  have hN1 := hN1.fr (jw_Fr.o f9) (by omega)
  have hN2 := hN2.fr (jw_Fr.o f9) (by omega)
  refine jw_aload_n (pc' := 49) jd_Merger_init_48 rfl rfl rfl ?_
  refine jw_new (pc' := 52) (fs := [.null, .null, .null, .null, .null]) hR jc_Blender jq_223 jq_224 jq_63 jd_Merger_init_49 (by decide +kernel) (by omega) (by omega) rfl (fun μ h1 f9 => ?_)
  have h0 := (f9 _ (by omega)).trans h0
  have hF := jw_Fr.step hF f9 (by omega)
  have hT := hT.fr (jw_Fr.o f9) (by omega)
  have hK := hK.fr (jw_Fr.o f9) (by omega)
  have hN1 := hN1.fr (jw_Fr.o f9) (by omega)
  have hN2 := hN2.fr (jw_Fr.o f9) (by omega)
  refine jw_dup (pc' := 53) jd_Merger_init_52 rfl rfl ?_
  refine jw_callIN (pc' := 56) hR (bb_init h1) jm_Blender_init jn_Merger_37 jd_Merger_init_53 rfl rfl (Nat.le_of_ble_eq_true rfl) (by omega) (by decide) (by omega) (by omega) rfl (fun v μ s9 q9 hle => ?_)
  obtain ⟨rfl, rfl, hB, f9⟩ := q9
  have hF := hF.trans f9 (by omega) (by omega)
  have h0 := (f9 _ (by omega)).trans h0
  have hT := hT.fr f9 (by omega)
  have hK := hK.fr f9 (by omega)
  have hN1 := hN1.fr f9 (by omega)
  have hN2 := hN2.fr f9 (by omega)
  refine jw_putF (pc' := 59) (kf := 4) (ty := (.object "Branchwork$Blender")) (fs' := [_, _, _, _, _, _, _]) jc_Merger (by decide) jq_255 jd_Merger_init_56 rfl rfl rfl (by decide +kernel) (by assumption) rfl rfl rfl (Nat.le_of_ble_eq_true rfl) rfl (fun μ h0 f9 => ?_)
  have hF := jw_Fr.step hF f9 (by omega)
  have hT := hT.fr (jw_Fr.o f9) (by omega)
  have hK := hK.fr (jw_Fr.o f9) (by omega)
  have hN1 := hN1.fr (jw_Fr.o f9) (by omega)
  have hN2 := hN2.fr (jw_Fr.o f9) (by omega)
  have hB := hB.fr (jw_Fr.o f9) (by omega)
  refine jw_aload_n (pc' := 60) jd_Merger_init_59 rfl rfl rfl ?_
  refine jw_new (pc' := 63) (fs := [.null, .int 0, .int 0]) hR jc_Content jq_249 jq_101 jq_57 jd_Merger_init_60 (by decide +kernel) (by omega) (by omega) rfl (fun μ h1 f9 => ?_)
  have h0 := (f9 _ (by omega)).trans h0
  have hF := jw_Fr.step hF f9 (by omega)
  have hT := hT.fr (jw_Fr.o f9) (by omega)
  have hK := hK.fr (jw_Fr.o f9) (by omega)
  have hN1 := hN1.fr (jw_Fr.o f9) (by omega)
  have hN2 := hN2.fr (jw_Fr.o f9) (by omega)
  have hB := hB.fr (jw_Fr.o f9) (by omega)
  refine jw_dup (pc' := 64) jd_Merger_init_63 rfl rfl ?_
  refine jw_callIN (pc' := 67) hR (bc_init h1) jm_Content_init jn_Merger_44 jd_Merger_init_64 rfl rfl (Nat.le_of_ble_eq_true rfl) (by omega) (by decide) (by omega) (by omega) rfl (fun v μ s9 q9 hle => ?_)
  obtain ⟨rfl, rfl, hC, f9⟩ := q9
  have hF := hF.trans f9 (by omega) (by omega)
  have h0 := (f9 _ (by omega)).trans h0
  have hT := hT.fr f9 (by omega)
  have hK := hK.fr f9 (by omega)
  have hN1 := hN1.fr f9 (by omega)
  have hN2 := hN2.fr f9 (by omega)
  have hB := hB.fr f9 (by omega)
  refine jw_putF (pc' := 70) (kf := 5) (ty := (.object "Branchwork$Content")) (fs' := [_, _, _, _, _, _, _]) jc_Merger (by decide) jq_256 jd_Merger_init_67 rfl rfl rfl (by decide +kernel) (by assumption) rfl rfl rfl (Nat.le_of_ble_eq_true rfl) rfl (fun μ h0 f9 => ?_)
  have hF := jw_Fr.step hF f9 (by omega)
  have hT := hT.fr (jw_Fr.o f9) (by omega)
  have hK := hK.fr (jw_Fr.o f9) (by omega)
  have hN1 := hN1.fr (jw_Fr.o f9) (by omega)
  have hN2 := hN2.fr (jw_Fr.o f9) (by omega)
  have hB := hB.fr (jw_Fr.o f9) (by omega)
  have hC := hC.fr (jw_Fr.o f9) (by omega)
  refine jw_aload_n (pc' := 71) jd_Merger_init_70 rfl rfl rfl ?_
  refine jw_bipush (pc' := 73) (v := nI 12) jd_Merger_init_71 (by decide +kernel) rfl ?_
  refine jw_newa (pc' := 75) (N := 12) (i := 1) (a0 := (12, .inl (fun _ => 0))) (ty := .boolean) (atype := .boolean) hR jq_273 rfl rfl jd_Merger_init_73 (fun _ => rfl) (by decide +kernel) (by decide +kernel) (by decide +kernel) (by omega) (by omega) rfl (fun μ h2 f9 => ?_)
  have h0 := (f9 _ (by omega)).trans h0
  have hF := jw_Fr.step hF f9 (by omega)
  have hT := hT.fr (jw_Fr.o f9) (by omega)
  have hK := hK.fr (jw_Fr.o f9) (by omega)
  have hN1 := hN1.fr (jw_Fr.o f9) (by omega)
  have hN2 := hN2.fr (jw_Fr.o f9) (by omega)
  have hB := hB.fr (jw_Fr.o f9) (by omega)
  have hC := hC.fr (jw_Fr.o f9) (by omega)
  refine jw_putF (pc' := 78) (kf := 6) (ty := (.array .boolean)) (fs' := [_, _, _, _, _, _, _]) jc_Merger (by decide) jq_257 jd_Merger_init_75 rfl rfl rfl (by decide +kernel) (by assumption) rfl rfl rfl (Nat.le_of_ble_eq_true rfl) rfl (fun μ h0 f9 => ?_)
  have h2 := (f9 _ (by omega)).trans h2
  have hF := jw_Fr.step hF f9 (by omega)
  have hT := hT.fr (jw_Fr.o f9) (by omega)
  have hK := hK.fr (jw_Fr.o f9) (by omega)
  have hN1 := hN1.fr (jw_Fr.o f9) (by omega)
  have hN2 := hN2.fr (jw_Fr.o f9) (by omega)
  have hB := hB.fr (jw_Fr.o f9) (by omega)
  have hC := hC.fr (jw_Fr.o f9) (by omega)
  refine jw_vret hE jd_Merger_init_78 rfl (by omega) (by omega) ?_
  exact ⟨rfl, rfl, ⟨h0, hT, hK, ⟨_, _, _, hN1⟩, ⟨_, _, _, hN2⟩, hB, hC, ⟨_, h2⟩⟩, hF⟩
end
