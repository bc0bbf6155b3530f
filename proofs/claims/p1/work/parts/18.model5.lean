theorem jv_asg {vm : Vm} {c : ClassId} {k : Class} {ty : FieldType} {comp : ClassId} (h : vm.classes[c]? = some k) (hk : k.kind = .array comp ty) : vm.assignable c c = true := by
  first
    | exact assignable_self vm c
    | exact Vm.assignable_self vm c
    | simp [Vm.assignable, Vm.assignableAux, h, hk, Vm.isSubclass, Vm.isSubclassAux]
theorem jw_aastI {mi : jw_M} {o : jw_O} {k : jw_K} {kc ks pc pc' hs : Nat} {lc : List (Nat × Value)} {rest : List Value} {μ : jw_Mem} {a b : Nat} {n m : Nat} {f : Nat → Option Nat} {g : Nat → Int32} {x : Int32} (hd : decode mi.2.1 pc = .ok (.aastore, 1)) (ha : μ a = some (.inl (o.2.2.1 5, n, .inr (.inr (.inr (.inr f)))))) (hb : μ b = some (.inl (o.2.2.1 0, m, .inl g))) (hin : vp_in x n) (hp : pc + 1 = pc') (kk : ∀ μ' : jw_Mem, μ' a = some (.inl (o.2.2.1 5, n, .inr (.inr (.inr (.inr (va_up f x.toNatClampNeg (some b))))))) → (∀ q, q ≠ a → μ' q = μ q) → jw_X mi o k kc ks pc' lc rest μ' hs) : jw_X mi o k kc ks pc lc (.ref b :: .int x :: .ref a :: rest) μ hs := by
  subst hp
  intro C0 H locs ls e1 e2 e3 e4
  have hlt : x.toNatClampNeg < n := Nat.not_le.mp fun q => hin (Or.inr q)
  have h0 : ¬ x < 0 := fun q => hin (Or.inl q)
  obtain ⟨comp, c, kA, h1, h2, k1, k2, h5⟩ := arrayOverA_spec C0.xB.2.2.2.2.2.2.2.2.2
  have ht5 : (jw_tys o.2.2.1)[5]? = some (o.2.2.1 5, .array .int) := rfl
  have ht0 : (jw_tys o.2.2.1)[0]? = some (o.2.2.1 0, .int) := rfl
  have r5 : k.2.2.2.1.vm.findClass ("[" ++ (FieldType.array .int).toString) = some (o.2.2.1 5) := (C0.hK.2 5 _ ht5).2
  have r0 : k.2.2.2.1.vm.findClass ("[" ++ FieldType.int.toString) = some (o.2.2.1 0) := (C0.hK.2 0 _ ht0).2
  have hc5 : c = o.2.2.1 5 := Option.some.inj (h5.symm.trans r5)
  have hc0 : comp = o.2.2.1 0 := Option.some.inj (h1.symm.trans r0)
  subst hc5; subst hc0
  obtain ⟨-, kC, hkC, cmC, hkkC⟩ := (C0.hK.2 0 _ ht0).1 m (fun j => .int (g j))
  have hcell : H[b]? = some (vp_cell (o.2.2.1 0) (m, .inl g)) := (e2 b _ hb).2
  refine W.aast C0.1 C0.2.1 (e2 a _ ha).2 (fun q h => by cases h) (fun h => by cases h) k1 k2 rfl hkC ⟨h0, by show _ < (arrV _ _ _).slots.size; rw [arrV_size]; exact hlt⟩ hcell (fun q h => by cases h) hkC (jv_asg hkC hkkC) rfl rfl hd fun H1 g z oq => ?_
  refine kk _ (va_up_self _ _ _) (fun q hq => va_up_ne _ _ hq) C0 H1 _ ls (z.trans e1) (e2.put ha ?_ oq) (e3.put z oq (e2 a _ ha).1) e4
  show H1[a]? = some (vp_cell _ _)
  rw [g]
  rw [vp_cell_q, vp_cell_q, arrV_store]
  congr 2
  funext q
  by_cases hq : q = x.toNatClampNeg
  · subst hq
    simp [updV, va_up, va_rf]
  · simp [updV, va_up, hq]
section
variable {o : jw_O} {μ : jw_Mem} {hs r : Nat}
theorem br_cut1 {a n0 : Nat} {f : Nat → Int32} (h : μ a = some (.inl (o.2.2.1 0, n0, .inl f))) (ha : a < hs) : jw_Spec mi_BranchworkModel_cut1 1 1 0 o [.ref a, .int (nI 0), .int (nI 0)] μ hs (fun v μ' s' => v = some (.ref hs) ∧ s' = hs + 1 ∧ (∃ g, μ' hs = some (.inl (o.2.2.1 0, 0, .inl g))) ∧ jw_Nw μ μ' hs) := by
  refine jw_spec (by decide +kernel) (Nat.le_of_ble_eq_true rfl) rfl (fun k hR hE => ?_)
  refine jw_iload_n (pc' := 1) jd_BranchworkModel_cut1_0 rfl rfl rfl ?_
  refine jw_iload_n (pc' := 2) jd_BranchworkModel_cut1_1 rfl rfl rfl ?_
  refine jw_isub (pc' := 3) jd_BranchworkModel_cut1_2 (by decide +kernel : (nI 0 : Int32) - nI 0 = nI 0) rfl ?_
  refine jw_newa (pc' := 5) (N := 0) (i := 0) (a0 := (0, .inl (fun _ => 0))) (ty := .int) (atype := .int) hR jq_116 rfl rfl jd_BranchworkModel_cut1_3 (fun _ => rfl) (by decide +kernel) (by decide +kernel) (by decide +kernel) (by omega) (by omega) rfl (fun μ h1 f9 => ?_)
  have h := (f9 _ (by omega)).trans h
  refine jw_astore_n (pc' := 6) (lc' := [(0, _), (1, _), (2, _), (3, _)]) jd_BranchworkModel_cut1_5 rfl (Nat.le_of_ble_eq_true rfl) ⟨rfl, rfl, rfl, rfl, trivial⟩ rfl ?_
  refine jw_aload_n (pc' := 7) jd_BranchworkModel_cut1_6 rfl rfl rfl ?_
  refine jw_iload_n (pc' := 8) jd_BranchworkModel_cut1_7 rfl rfl rfl ?_
  refine jw_aload_n (pc' := 9) jd_BranchworkModel_cut1_8 rfl rfl rfl ?_
  refine jw_iconst (pc' := 10) (v := nI 0) jd_BranchworkModel_cut1_9 (by decide +kernel) rfl ?_
  refine jw_iload_n (pc' := 11) jd_BranchworkModel_cut1_10 rfl rfl rfl ?_
  refine jw_iload_n (pc' := 12) jd_BranchworkModel_cut1_11 rfl rfl rfl ?_
  refine jw_isub (pc' := 13) jd_BranchworkModel_cut1_12 (by decide +kernel : (nI 0 : Int32) - nI 0 = nI 0) rfl ?_
  refine jw_cpyi (pc' := 16) hR (by omega) jq_1181 jd_BranchworkModel_cut1_13 h h1 (by decide +kernel) (by decide +kernel) (by decide +kernel) (by rw [nI_clamp (by omega)]; omega) (by decide +kernel) rfl (fun μ g1 h1 f8 => ?_)
  refine jw_aload_n (pc' := 17) jd_BranchworkModel_cut1_16 rfl rfl rfl ?_
  refine jw_aret hE jd_BranchworkModel_cut1_17 rfl (by first | exact Or.inl ⟨_, rfl⟩ | exact Or.inr ⟨_, rfl⟩) (by first | exact Or.inr ⟨_, rfl⟩ | exact Or.inl rfl) (by omega) (by omega) ?_
  exact ⟨rfl, rfl, ⟨_, h1⟩, fun q hq => (f8 q (by omega)).trans (f9 q (by omega))⟩
theorem br_joined01 {a b : Nat} {f g : Nat → Int32} (h : μ a = some (.inl (o.2.2.1 0, 0, .inl f))) (h2 : μ b = some (.inl (o.2.2.1 0, 1, .inl g))) (ha : a < hs) (hb : b < hs) : jw_Spec mi_BranchworkModel_joined 1 1 1 o [.ref a, .ref b] μ hs (fun v μ' s' => v = some (.ref hs) ∧ s' = hs + 1 ∧ (∃ g, μ' hs = some (.inl (o.2.2.1 0, 1, .inl g))) ∧ jw_Nw μ μ' hs) := by
  refine jw_spec (by decide +kernel) (Nat.le_of_ble_eq_true rfl) rfl (fun k hR hE => ?_)
  refine jw_aload_n (pc' := 1) jd_BranchworkModel_joined_0 rfl rfl rfl ?_
  refine jw_alen (pc' := 2) (i := 0) jd_BranchworkModel_joined_1 (by assumption) rfl rfl rfl ?_
  refine jw_aload_n (pc' := 3) jd_BranchworkModel_joined_2 rfl rfl rfl ?_
  refine jw_alen (pc' := 4) (i := 0) jd_BranchworkModel_joined_3 (by assumption) rfl rfl rfl ?_
  refine jw_iadd (pc' := 5) jd_BranchworkModel_joined_4 (by decide +kernel : Int32.ofNat 0 + Int32.ofNat 1 = nI 1) rfl ?_
  refine jw_newa (pc' := 7) (N := 1) (i := 0) (a0 := (1, .inl (fun _ => 0))) (ty := .int) (atype := .int) hR jq_116 rfl rfl jd_BranchworkModel_joined_5 (fun _ => rfl) (by decide +kernel) (by decide +kernel) (by decide +kernel) (by omega) (by omega) rfl (fun μ h1 f9 => ?_)
  have h := (f9 _ (by omega)).trans h
  have h2 := (f9 _ (by omega)).trans h2
  refine jw_astore_n (pc' := 8) (lc' := [(0, _), (1, _), (2, _)]) jd_BranchworkModel_joined_7 rfl (Nat.le_of_ble_eq_true rfl) ⟨rfl, rfl, rfl, trivial⟩ rfl ?_
  refine jw_aload_n (pc' := 9) jd_BranchworkModel_joined_8 rfl rfl rfl ?_
  refine jw_iconst (pc' := 10) (v := nI 0) jd_BranchworkModel_joined_9 (by decide +kernel) rfl ?_
  refine jw_aload_n (pc' := 11) jd_BranchworkModel_joined_10 rfl rfl rfl ?_
  refine jw_iconst (pc' := 12) (v := nI 0) jd_BranchworkModel_joined_11 (by decide +kernel) rfl ?_
  refine jw_aload_n (pc' := 13) jd_BranchworkModel_joined_12 rfl rfl rfl ?_
  refine jw_alen (pc' := 14) (i := 0) jd_BranchworkModel_joined_13 (by assumption) rfl rfl rfl ?_
  refine jw_cpyi (pc' := 17) (n := Int32.ofNat 0) (sp := nI 0) (dp := nI 0) hR (by omega) jq_1181 jd_BranchworkModel_joined_14 h h1 (by decide +kernel) (by decide +kernel) (by decide +kernel) (by decide +kernel) (by decide +kernel) rfl (fun μ g1 h1 f8 => ?_)
  have h := (f8 _ (by omega)).trans h
  have h2 := (f8 _ (by omega)).trans h2
  refine jw_aload_n (pc' := 18) jd_BranchworkModel_joined_17 rfl rfl rfl ?_
  refine jw_iconst (pc' := 19) (v := nI 0) jd_BranchworkModel_joined_18 (by decide +kernel) rfl ?_
  refine jw_aload_n (pc' := 20) jd_BranchworkModel_joined_19 rfl rfl rfl ?_
  refine jw_aload_n (pc' := 21) jd_BranchworkModel_joined_20 rfl rfl rfl ?_
  refine jw_alen (pc' := 22) (i := 0) jd_BranchworkModel_joined_21 (by assumption) rfl rfl rfl ?_
  refine jw_aload_n (pc' := 23) jd_BranchworkModel_joined_22 rfl rfl rfl ?_
  refine jw_alen (pc' := 24) (i := 0) jd_BranchworkModel_joined_23 (by assumption) rfl rfl rfl ?_
  refine jw_cpyi (pc' := 27) (n := Int32.ofNat 1) (sp := nI 0) (dp := Int32.ofNat 0) hR (by omega) jq_1181 jd_BranchworkModel_joined_24 h2 h1 (by decide +kernel) (by decide +kernel) (by decide +kernel) (by decide +kernel) (by decide +kernel) rfl (fun μ g1 h1 f7 => ?_)
  refine jw_aload_n (pc' := 28) jd_BranchworkModel_joined_27 rfl rfl rfl ?_
  refine jw_aret hE jd_BranchworkModel_joined_28 rfl (by first | exact Or.inl ⟨_, rfl⟩ | exact Or.inr ⟨_, rfl⟩) (by first | exact Or.inr ⟨_, rfl⟩ | exact Or.inl rfl) (by omega) (by omega) ?_
  exact ⟨rfl, rfl, ⟨_, h1⟩, fun q hq => (f7 q (by omega)).trans ((f8 q (by omega)).trans (f9 q (by omega)))⟩
theorem br_joined10 {a b : Nat} {f g : Nat → Int32} (h : μ a = some (.inl (o.2.2.1 0, 1, .inl f))) (h2 : μ b = some (.inl (o.2.2.1 0, 0, .inl g))) (ha : a < hs) (hb : b < hs) : jw_Spec mi_BranchworkModel_joined 1 1 1 o [.ref a, .ref b] μ hs (fun v μ' s' => v = some (.ref hs) ∧ s' = hs + 1 ∧ (∃ g, μ' hs = some (.inl (o.2.2.1 0, 1, .inl g))) ∧ jw_Nw μ μ' hs) := by
  refine jw_spec (by decide +kernel) (Nat.le_of_ble_eq_true rfl) rfl (fun k hR hE => ?_)
  refine jw_aload_n (pc' := 1) jd_BranchworkModel_joined_0 rfl rfl rfl ?_
  refine jw_alen (pc' := 2) (i := 0) jd_BranchworkModel_joined_1 (by assumption) rfl rfl rfl ?_
  refine jw_aload_n (pc' := 3) jd_BranchworkModel_joined_2 rfl rfl rfl ?_
  refine jw_alen (pc' := 4) (i := 0) jd_BranchworkModel_joined_3 (by assumption) rfl rfl rfl ?_
  refine jw_iadd (pc' := 5) jd_BranchworkModel_joined_4 (by decide +kernel : Int32.ofNat 1 + Int32.ofNat 0 = nI 1) rfl ?_
  refine jw_newa (pc' := 7) (N := 1) (i := 0) (a0 := (1, .inl (fun _ => 0))) (ty := .int) (atype := .int) hR jq_116 rfl rfl jd_BranchworkModel_joined_5 (fun _ => rfl) (by decide +kernel) (by decide +kernel) (by decide +kernel) (by omega) (by omega) rfl (fun μ h1 f9 => ?_)
  have h := (f9 _ (by omega)).trans h
  have h2 := (f9 _ (by omega)).trans h2
  refine jw_astore_n (pc' := 8) (lc' := [(0, _), (1, _), (2, _)]) jd_BranchworkModel_joined_7 rfl (Nat.le_of_ble_eq_true rfl) ⟨rfl, rfl, rfl, trivial⟩ rfl ?_
  refine jw_aload_n (pc' := 9) jd_BranchworkModel_joined_8 rfl rfl rfl ?_
  refine jw_iconst (pc' := 10) (v := nI 0) jd_BranchworkModel_joined_9 (by decide +kernel) rfl ?_
  refine jw_aload_n (pc' := 11) jd_BranchworkModel_joined_10 rfl rfl rfl ?_
  refine jw_iconst (pc' := 12) (v := nI 0) jd_BranchworkModel_joined_11 (by decide +kernel) rfl ?_
  refine jw_aload_n (pc' := 13) jd_BranchworkModel_joined_12 rfl rfl rfl ?_
  refine jw_alen (pc' := 14) (i := 0) jd_BranchworkModel_joined_13 (by assumption) rfl rfl rfl ?_
  refine jw_cpyi (pc' := 17) (n := Int32.ofNat 1) (sp := nI 0) (dp := nI 0) hR (by omega) jq_1181 jd_BranchworkModel_joined_14 h h1 (by decide +kernel) (by decide +kernel) (by decide +kernel) (by decide +kernel) (by decide +kernel) rfl (fun μ g1 h1 f8 => ?_)
  have h := (f8 _ (by omega)).trans h
  have h2 := (f8 _ (by omega)).trans h2
  refine jw_aload_n (pc' := 18) jd_BranchworkModel_joined_17 rfl rfl rfl ?_
  refine jw_iconst (pc' := 19) (v := nI 0) jd_BranchworkModel_joined_18 (by decide +kernel) rfl ?_
  refine jw_aload_n (pc' := 20) jd_BranchworkModel_joined_19 rfl rfl rfl ?_
  refine jw_aload_n (pc' := 21) jd_BranchworkModel_joined_20 rfl rfl rfl ?_
  refine jw_alen (pc' := 22) (i := 0) jd_BranchworkModel_joined_21 (by assumption) rfl rfl rfl ?_
  refine jw_aload_n (pc' := 23) jd_BranchworkModel_joined_22 rfl rfl rfl ?_
  refine jw_alen (pc' := 24) (i := 0) jd_BranchworkModel_joined_23 (by assumption) rfl rfl rfl ?_
  refine jw_cpyi (pc' := 27) (n := Int32.ofNat 0) (sp := nI 0) (dp := Int32.ofNat 1) hR (by omega) jq_1181 jd_BranchworkModel_joined_24 h2 h1 (by decide +kernel) (by decide +kernel) (by decide +kernel) (by decide +kernel) (by decide +kernel) rfl (fun μ g1 h1 f7 => ?_)
  refine jw_aload_n (pc' := 28) jd_BranchworkModel_joined_27 rfl rfl rfl ?_
  refine jw_aret hE jd_BranchworkModel_joined_28 rfl (by first | exact Or.inl ⟨_, rfl⟩ | exact Or.inr ⟨_, rfl⟩) (by first | exact Or.inr ⟨_, rfl⟩ | exact Or.inl rfl) (by omega) (by omega) ?_
  exact ⟨rfl, rfl, ⟨_, h1⟩, fun q hq => (f7 q (by omega)).trans ((f8 q (by omega)).trans (f9 q (by omega)))⟩
theorem bz_copy {t : Nat} (h : bz_At o μ t) (ht : t + 2 ≤ hs) : jw_Spec mi_MTree_copy 3 2 13 o [.ref t] μ hs (fun v μ' s' => v = some (.ref hs) ∧ s' = hs + 2 ∧ bz_At o μ' hs ∧ jw_Nw μ μ' hs) := by
  refine jw_spec (by decide +kernel) (Nat.le_of_ble_eq_true rfl) rfl (fun k hR hE => ?_)
  refine jw_new (pc' := 3) (fs := [.null]) hR jc_MTree jq_1193 jq_1056 jq_69 jd_MTree_copy_0 (by decide +kernel) (by omega) (by omega) rfl (fun μ h1 f9 => ?_)
  refine jw_dup (pc' := 4) jd_MTree_copy_3 rfl rfl ?_
  refine jw_callI (pc' := 7) hR (bz_init h1) jm_MTree_init jq_1194 jd_MTree_copy_4 rfl rfl (Nat.le_of_ble_eq_true rfl) (by omega) (by decide) (by omega) (by omega) rfl (fun v μ s9 q9 hle => ?_)
  obtain ⟨rfl, rfl, hT, f8⟩ := q9
  have n8 : jw_Nw _ μ hs := fun q hq => (f8 q (by omega)).trans (f9 q (by omega))
  have h := h.nw n8 ht
  obtain ⟨h0, f, h1, hf⟩ := h
  obtain ⟨t0, g, t1, hg⟩ := hT
  refine jw_astore_n (pc' := 8) (lc' := [(0, _), (1, _)]) jd_MTree_copy_7 rfl (Nat.le_of_ble_eq_true rfl) ⟨rfl, rfl, trivial⟩ rfl ?_
  refine jw_aload_n (pc' := 9) jd_MTree_copy_8 rfl rfl rfl ?_
  refine jw_get (pc' := 12) (kf := 0) jc_MTree (by decide) jq_1063 jd_MTree_copy_9 (by assumption) rfl rfl ?_
  refine jw_iconst (pc' := 13) (v := nI 0) jd_MTree_copy_12 (by decide +kernel) rfl ?_
  refine jw_aload_n (pc' := 14) jd_MTree_copy_13 rfl rfl rfl ?_
  refine jw_get (pc' := 17) (kf := 0) jc_MTree (by decide) jq_1063 jd_MTree_copy_14 (by assumption) rfl rfl ?_
  refine jw_iconst (pc' := 18) (v := nI 0) jd_MTree_copy_17 (by decide +kernel) rfl ?_
  refine jw_bipush (pc' := 20) (v := nI 12) jd_MTree_copy_18 (by decide +kernel) rfl ?_
  refine jw_cpyn (pc' := 23) hR (by omega) jq_1195 jd_MTree_copy_20 h1 t1 (by decide +kernel) (by decide +kernel) (by decide +kernel) (by decide +kernel) (by decide +kernel) (fun i hi => ?_) rfl (fun μ t1 f7 => ?_)
  · rw [nI_clamp (by omega)] at hi ⊢
    exact hf _ (by omega)
  have t0 := (f7 _ (by omega)).trans t0
  refine jw_aload_n (pc' := 24) jd_MTree_copy_23 rfl rfl rfl ?_
  refine jw_aret hE jd_MTree_copy_24 rfl (by first | exact Or.inl ⟨_, rfl⟩ | exact Or.inr ⟨_, rfl⟩) (by first | exact Or.inr ⟨_, rfl⟩ | exact Or.inl rfl) (by omega) (by omega) ?_
  refine ⟨rfl, rfl, ⟨t0, _, t1, fun p hp => ?_⟩, fun q hq => (f7 q (by omega)).trans (n8 q hq)⟩
  unfold va_cpy
  split
  · rw [nI_clamp (by omega)] at *
    exact hf _ (by omega)
  · exact hg p hp
theorem br_write {th : Int32} (h : bq_At o μ r th) (hr : r + 7 ≤ hs) {p a n0 : Nat} (hp : p < 12) {g : Nat → Int32} (h1 : μ a = some (.inl (o.2.2.1 0, n0, .inl g))) (ha : a < hs) (har : a ≠ r) : jw_Spec mi_BranchworkModel_write 4 2 13 o [.ref r, .int (nI p), .ref a] μ hs (fun v μ' s' => v = none ∧ s' = hs + 2 ∧ (∃ c', μ' r = some (.inr (9, .int th :: c'))) ∧ ∀ q, q ≠ r → q < hs → μ' q = μ q) := by
  refine jw_spec (by decide +kernel) (Nat.le_of_ble_eq_true rfl) rfl (fun k hR hE => ?_)
  have h0 := h.1
  have hT := h.2.2.2.1
  have hT0 := hT.1
  refine jw_aload_n (pc' := 1) jd_BranchworkModel_write_0 rfl rfl rfl ?_
  refine jw_aload_n (pc' := 2) jd_BranchworkModel_write_1 rfl rfl rfl ?_
  refine jw_get (pc' := 5) (kf := 4) jc_BranchworkModel (by decide) jq_1134 jd_BranchworkModel_write_2 (by assumption) rfl rfl ?_
  refine jw_callV (pc' := 8) hR (bz_copy hT (by omega)) jm_MTree_copy jq_1189 jc_MTree jd_BranchworkModel_write_5 (by assumption) rfl rfl (Nat.le_of_ble_eq_true rfl) (by omega) (by decide) (by omega) (by omega) rfl (fun v μ s9 q9 hle => ?_)
  obtain ⟨rfl, rfl, hU, f8⟩ := q9
  have h0 := (f8 _ (by omega)).trans h0
  have h1 := (f8 _ (by omega)).trans h1
  obtain ⟨u0, f, u1, hf⟩ := hU
  refine jw_put (pc' := 11) (kf := 4) (ty := (.object "BranchworkModel$Tree")) (fs' := [_, _, _, _, _, _, _]) jc_BranchworkModel (by decide) jq_1134 jd_BranchworkModel_write_8 rfl (by decide +kernel) (by assumption) rfl rfl rfl (Nat.le_of_ble_eq_true rfl) rfl (fun μ h0 f9 => ?_)
  have h1 := (f9 _ (by omega)).trans h1
  have u0 := (f9 _ (by omega)).trans u0
  have u1 := (f9 _ (by omega)).trans u1
  refine jw_aload_n (pc' := 12) jd_BranchworkModel_write_11 rfl rfl rfl ?_
  refine jw_get (pc' := 15) (kf := 4) jc_BranchworkModel (by decide) jq_1134 jd_BranchworkModel_write_12 (by assumption) rfl rfl ?_
  refine jw_get (pc' := 18) (kf := 0) jc_MTree (by decide) jq_1065 jd_BranchworkModel_write_15 (by assumption) rfl rfl ?_
  refine jw_iload_n (pc' := 19) jd_BranchworkModel_write_18 rfl rfl rfl ?_
  refine jw_aload_n (pc' := 20) jd_BranchworkModel_write_19 rfl rfl rfl ?_
  refine jw_aastI (pc' := 21) jd_BranchworkModel_write_20 u1 h1 (vp_in_nI hp (by omega)) rfl (fun μ u1 f7 => ?_)
  have h0 := (f7 _ (by omega)).trans h0
  refine jw_vret hE jd_BranchworkModel_write_21 rfl (by omega) (by omega) ?_
  exact ⟨rfl, rfl, ⟨_, h0⟩, fun q hq hq2 => (f7 q (by omega)).trans ((f9 q hq).trans (f8 q hq2))⟩
theorem br_put {th : Int32} (h : bq_At o μ r th) (hr : r + 7 ≤ hs) (x y z : Int32) : jr_F mi_BranchworkModel_put o [.ref r, .int x, .int y, .int z] μ hs r (kx_put x y z) (nI 1) := by
  refine jw_spec (by decide +kernel) (Nat.le_of_ble_eq_true rfl) rfl (fun k hR hE => ?_)
  have h0 := h.1
  refine jw_aload_n (pc' := 1) jd_BranchworkModel_put_0 rfl rfl rfl ?_
  refine jw_iload_n (pc' := 2) jd_BranchworkModel_put_1 rfl rfl rfl ?_
  refine jw_callS0 (pc' := 5) hR (bq_isNoPath x rfl) jm_BranchworkModel_isNoPath jq_1160 jd_BranchworkModel_put_2 rfl rfl (Nat.le_of_ble_eq_true rfl) (by omega) (by decide) (by omega) (by omega) rfl rfl ?_
  refine jw_iconst (pc' := 6) (v := nI 1) jd_BranchworkModel_put_5 (by decide +kernel) rfl ?_
  by_cases hx : jx_in x
  rotate_left
  · have e : kx_path x = 1 := by unfold kx_path; rw [if_pos hx]
    have e2 : kx_put x y z = 1 := by unfold kx_put; rw [if_pos (Or.inl hx)]
    rw [e]
    rw [e2] at hE
    refine jw_callV (pc' := 9) hR (bq_start1 h (w := 1) (by omega) (by omega)) jm_BranchworkModel_start jq_1166 jc_BranchworkModel jd_BranchworkModel_put_6 (by assumption) rfl rfl (Nat.le_of_ble_eq_true rfl) (by omega) (by decide) (by omega) (by omega) rfl (fun v μ s9 q9 hle => ?_)
    obtain ⟨rfl, rfl, h, f8⟩ := q9
    refine jw_if_eq (tgt := 14) (pc' := 12) jd_BranchworkModel_put_9 (by decide) rfl (fun c => ?_) (fun c => ?_)
    · exact absurd c (by decide)
    refine jw_iconst (pc' := 13) (v := nI 0) jd_BranchworkModel_put_12 (by decide +kernel) rfl ?_
    refine jw_iret hE jd_BranchworkModel_put_13 rfl (by omega) (by omega) ?_
    exact ⟨⟨_, rfl, fun z => absurd z (by decide)⟩, ⟨_, h.1⟩, fun q z _ => f8 q (by omega)⟩
  have e : kx_path x = 0 := by unfold kx_path; rw [if_neg (fun z => z hx)]
  rw [e]
  obtain ⟨p, hp, rfl⟩ := hx.nat
  refine jw_callV (pc' := 9) hR (bq_start0 h _) jm_BranchworkModel_start jq_1166 jc_BranchworkModel jd_BranchworkModel_put_6 (by assumption) rfl rfl (Nat.le_of_ble_eq_true rfl) (by omega) (by decide) (by omega) (by omega) rfl (fun v μ s9 q9 hle => ?_)
  obtain ⟨rfl, rfl, h, f8⟩ := q9
  have h0 := h.1
  have hT := h.2.2.2.1
  have hT0 := hT.1
  refine jw_if_eq (tgt := 14) (pc' := 12) jd_BranchworkModel_put_9 (by decide) rfl (fun c => ?_) (fun c => ?_)
  rotate_left
  · exact absurd rfl c
  refine jw_aload_n (pc' := 15) jd_BranchworkModel_put_14 rfl rfl rfl ?_
  refine jw_get (pc' := 18) (kf := 4) jc_BranchworkModel (by decide) jq_1134 jd_BranchworkModel_put_15 (by assumption) rfl rfl ?_
  refine jw_iload_n (pc' := 19) jd_BranchworkModel_put_18 rfl rfl rfl ?_
  refine jw_callV0 (pc' := 22) hR (bz_has hT hp) jm_MTree_has jq_1174 jc_MTree jd_BranchworkModel_put_19 (by assumption) rfl rfl (Nat.le_of_ble_eq_true rfl) (by omega) (by decide) (by omega) (by omega) rfl rfl ?_
  refine jw_if_eq (tgt := 37) (pc' := 25) jd_BranchworkModel_put_22 (by decide) rfl (fun c1 => ?_) (fun c1 => ?_)
  rotate_left
  · exact absurd rfl c1
  refine jw_iconst (pc' := 38) (v := nI 0) jd_BranchworkModel_put_37 (by decide +kernel) rfl ?_
  refine jw_newa (pc' := 40) (N := 0) (i := 0) (a0 := (0, .inl (fun _ => 0))) (ty := .int) (atype := .int) hR jq_116 rfl rfl jd_BranchworkModel_put_38 (fun _ => rfl) (by decide +kernel) (by decide +kernel) (by decide +kernel) (by omega) (by omega) rfl (fun μ h1 f9 => ?_)
  refine jw_astore (pc' := 42) (lc' := [(0, _), (1, _), (2, _), (3, _), (4, _)]) jd_BranchworkModel_put_40 (Nat.le_of_ble_eq_true rfl) ⟨rfl, rfl, rfl, rfl, rfl, trivial⟩ rfl ?_
  refine jw_aload_n (pc' := 43) jd_BranchworkModel_put_42 rfl rfl rfl ?_
  refine jw_iload_n (pc' := 44) jd_BranchworkModel_put_43 rfl rfl rfl ?_
  refine jw_iconst (pc' := 45) (v := nI 0) jd_BranchworkModel_put_44 (by decide +kernel) rfl ?_
  refine jw_aload (pc' := 47) jd_BranchworkModel_put_45 rfl rfl ?_
  refine jw_alen (pc' := 48) (i := 0) jd_BranchworkModel_put_47 (by assumption) rfl rfl rfl ?_
  have n9 : jw_Nw _ μ s9 := fun q hq => f9 q (by omega)
  have h := h.nw n9 hr
  have h0 := h.1
  by_cases hy : y = nI 0
  rotate_left
  · have e2 : kx_put (nI p) y z = 1 := by unfold kx_put; rw [if_pos (Or.inr (show y ≠ 0 from hy))]
    rw [e2] at hE
    have hy2 : y < nI 0 ∨ Int32.ofNat 0 < y := by
      rcases fa_three y 0 with z | z | z
      · exact Or.inl z
      · exact absurd z hy
      · exact Or.inr z
    refine jw_callS0 (pc' := 51) hR (bq_isIn (v := 0) (Or.inr ⟨rfl, hy2⟩)) jm_BranchworkModel_isIn jq_1163 jd_BranchworkModel_put_48 rfl rfl (Nat.le_of_ble_eq_true rfl) (by omega) (by decide) (by omega) (by omega) rfl rfl ?_
    refine jw_if_ne (tgt := 58) (pc' := 54) jd_BranchworkModel_put_51 (by decide) rfl (fun c2 => ?_) (fun c2 => ?_)
    · exact absurd rfl c2
    refine jw_iconst (pc' := 55) (v := nI 1) jd_BranchworkModel_put_54 (by decide +kernel) rfl ?_
    refine jw_goto (tgt := 59) jd_BranchworkModel_put_55 (by decide) ?_
    refine jw_iconst (pc' := 60) (v := nI 1) jd_BranchworkModel_put_59 (by decide +kernel) rfl ?_
    refine jw_callV (pc' := 63) hR (bq_refuse1 h (w := 1) (by omega) (by omega)) jm_BranchworkModel_refuse jq_1170 jc_BranchworkModel jd_BranchworkModel_put_60 (by assumption) rfl rfl (Nat.le_of_ble_eq_true rfl) (by omega) (by decide) (by omega) (by omega) rfl (fun v μ s9 q9 hle => ?_)
    obtain ⟨rfl, rfl, h, f7⟩ := q9
    refine jw_if_ne (tgt := 110) (pc' := 66) jd_BranchworkModel_put_63 (by decide) rfl (fun c3 => ?_) (fun c3 => ?_)
    rotate_left
    · exact absurd c3 (by decide)
    refine jw_iconst (pc' := 111) (v := nI 0) jd_BranchworkModel_put_110 (by decide +kernel) rfl ?_
    refine jw_iret hE jd_BranchworkModel_put_111 rfl (by omega) (by omega) ?_
    exact ⟨⟨_, rfl, fun z => absurd z (by decide)⟩, ⟨_, h.1⟩, fun q z z2 => (f7 q (by omega)).trans ((n9 q z2).trans (f8 q (by omega)))⟩
  subst hy
  refine jw_callS0 (pc' := 51) hR (bq_isIn (v := 1) (Or.inl ⟨rfl, by decide +kernel, by decide +kernel⟩)) jm_BranchworkModel_isIn jq_1163 jd_BranchworkModel_put_48 rfl rfl (Nat.le_of_ble_eq_true rfl) (by omega) (by decide) (by omega) (by omega) rfl rfl ?_
  refine jw_if_ne (tgt := 58) (pc' := 54) jd_BranchworkModel_put_51 (by decide) rfl (fun c2 => ?_) (fun c2 => ?_)
  rotate_left
  · exact absurd c2 (by decide)
  refine jw_iconst (pc' := 59) (v := nI 0) jd_BranchworkModel_put_58 (by decide +kernel) rfl ?_
  refine jw_iconst (pc' := 60) (v := nI 1) jd_BranchworkModel_put_59 (by decide +kernel) rfl ?_
  refine jw_callV0 (pc' := 63) hR (bq_refuse0 h _) jm_BranchworkModel_refuse jq_1170 jc_BranchworkModel jd_BranchworkModel_put_60 (by assumption) rfl rfl (Nat.le_of_ble_eq_true rfl) (by omega) (by decide) (by omega) (by omega) rfl rfl ?_
  refine jw_if_ne (tgt := 110) (pc' := 66) jd_BranchworkModel_put_63 (by decide) rfl (fun c3 => ?_) (fun c3 => ?_)
  · exact absurd rfl c3
  refine jw_aload_n (pc' := 67) jd_BranchworkModel_put_66 rfl rfl rfl ?_
  refine jw_iload_n (pc' := 68) jd_BranchworkModel_put_67 rfl rfl rfl ?_
  refine jw_iconst (pc' := 69) (v := nI 0) jd_BranchworkModel_put_68 (by decide +kernel) rfl ?_
  refine jw_bipush (pc' := 71) (v := nI 99) jd_BranchworkModel_put_69 (by decide +kernel) rfl ?_
  by_cases hz : z < 0 ∨ nI 99 < z
  · have e2 : kx_put (nI p) (nI 0) z = 2 := by unfold kx_put; rw [if_neg (fun q => q.elim (fun q => q hx) (fun q => q rfl)), if_pos hz]
    rw [e2] at hE
    refine jw_callS0 (pc' := 74) hR (bq_isIn (v := 0) (Or.inr ⟨rfl, hz⟩)) jm_BranchworkModel_isIn jq_1163 jd_BranchworkModel_put_71 rfl rfl (Nat.le_of_ble_eq_true rfl) (by omega) (by decide) (by omega) (by omega) rfl rfl ?_
    refine jw_if_ne (tgt := 81) (pc' := 77) jd_BranchworkModel_put_74 (by decide) rfl (fun c4 => ?_) (fun c4 => ?_)
    · exact absurd rfl c4
    refine jw_iconst (pc' := 78) (v := nI 1) jd_BranchworkModel_put_77 (by decide +kernel) rfl ?_
    refine jw_goto (tgt := 82) jd_BranchworkModel_put_78 (by decide) ?_
    refine jw_iconst (pc' := 83) (v := nI 2) jd_BranchworkModel_put_82 (by decide +kernel) rfl ?_
    refine jw_callV (pc' := 86) hR (bq_refuse1 h (w := 2) (by omega) (by omega)) jm_BranchworkModel_refuse jq_1170 jc_BranchworkModel jd_BranchworkModel_put_83 (by assumption) rfl rfl (Nat.le_of_ble_eq_true rfl) (by omega) (by decide) (by omega) (by omega) rfl (fun v μ s9 q9 hle => ?_)
    obtain ⟨rfl, rfl, h, f7⟩ := q9
    refine jw_if_ne (tgt := 110) (pc' := 89) jd_BranchworkModel_put_86 (by decide) rfl (fun c5 => ?_) (fun c5 => ?_)
    rotate_left
    · exact absurd c5 (by decide)
    refine jw_iconst (pc' := 111) (v := nI 0) jd_BranchworkModel_put_110 (by decide +kernel) rfl ?_
    refine jw_iret hE jd_BranchworkModel_put_111 rfl (by omega) (by omega) ?_
    exact ⟨⟨_, rfl, fun z => absurd z (by decide)⟩, ⟨_, h.1⟩, fun q z z2 => (f7 q (by omega)).trans ((n9 q z2).trans (f8 q (by omega)))⟩
  have e2 : kx_put (nI p) (nI 0) z = 0 := by unfold kx_put; rw [if_neg (fun q => q.elim (fun q => q hx) (fun q => q rfl)), if_neg hz]
  rw [e2] at hE
  refine jw_callS0 (pc' := 74) hR (bq_isIn (v := 1) (Or.inl ⟨rfl, fun q => hz (Or.inl q), fun q => hz (Or.inr q)⟩)) jm_BranchworkModel_isIn jq_1163 jd_BranchworkModel_put_71 rfl rfl (Nat.le_of_ble_eq_true rfl) (by omega) (by decide) (by omega) (by omega) rfl rfl ?_
  refine jw_if_ne (tgt := 81) (pc' := 77) jd_BranchworkModel_put_74 (by decide) rfl (fun c4 => ?_) (fun c4 => ?_)
  rotate_left
  · exact absurd c4 (by decide)
  refine jw_iconst (pc' := 82) (v := nI 0) jd_BranchworkModel_put_81 (by decide +kernel) rfl ?_
  refine jw_iconst (pc' := 83) (v := nI 2) jd_BranchworkModel_put_82 (by decide +kernel) rfl ?_
  refine jw_callV0 (pc' := 86) hR (bq_refuse0 h _) jm_BranchworkModel_refuse jq_1170 jc_BranchworkModel jd_BranchworkModel_put_83 (by assumption) rfl rfl (Nat.le_of_ble_eq_true rfl) (by omega) (by decide) (by omega) (by omega) rfl rfl ?_
  refine jw_if_ne (tgt := 110) (pc' := 89) jd_BranchworkModel_put_86 (by decide) rfl (fun c5 => ?_) (fun c5 => ?_)
  · exact absurd rfl c5
  refine jw_aload_n (pc' := 90) jd_BranchworkModel_put_89 rfl rfl rfl ?_
  refine jw_aload (pc' := 92) jd_BranchworkModel_put_90 rfl rfl ?_
  refine jw_alen (pc' := 93) (i := 0) jd_BranchworkModel_put_92 (by assumption) rfl rfl rfl ?_
  refine jw_bipush (pc' := 95) (v := nI 10) jd_BranchworkModel_put_93 (by decide +kernel) rfl ?_
  refine jw_icmp_ne (tgt := 102) (pc' := 98) jd_BranchworkModel_put_95 (by decide) rfl (fun c6 => ?_) (fun c6 => ?_)
  rotate_left
  · exact absurd c6 (by decide)
  refine jw_iconst (pc' := 103) (v := nI 0) jd_BranchworkModel_put_102 (by decide +kernel) rfl ?_
  refine jw_iconst (pc' := 104) (v := nI 3) jd_BranchworkModel_put_103 (by decide +kernel) rfl ?_
  refine jw_callV0 (pc' := 107) hR (bq_refuse0 h _) jm_BranchworkModel_refuse jq_1170 jc_BranchworkModel jd_BranchworkModel_put_104 (by assumption) rfl rfl (Nat.le_of_ble_eq_true rfl) (by omega) (by decide) (by omega) (by omega) rfl rfl ?_
  refine jw_if_eq (tgt := 112) (pc' := 110) jd_BranchworkModel_put_107 (by decide) rfl (fun c7 => ?_) (fun c7 => ?_)
  rotate_left
  · exact absurd rfl c7
  refine jw_aload_n (pc' := 113) jd_BranchworkModel_put_112 rfl rfl rfl ?_
  refine jw_iload_n (pc' := 114) jd_BranchworkModel_put_113 rfl rfl rfl ?_
  refine jw_aload (pc' := 116) jd_BranchworkModel_put_114 rfl rfl ?_
  refine jw_iconst (pc' := 117) (v := nI 0) jd_BranchworkModel_put_116 (by decide +kernel) rfl ?_
  refine jw_iload_n (pc' := 118) jd_BranchworkModel_put_117 rfl rfl rfl ?_
  refine jw_callS (pc' := 121) hR (br_cut1 h1 (by omega)) jm_BranchworkModel_cut1 jq_1178 jd_BranchworkModel_put_118 rfl rfl (Nat.le_of_ble_eq_true rfl) (by omega) (by decide) (by omega) (by omega) rfl (fun v μ s9 q9 hle => ?_)
  obtain ⟨rfl, rfl, ⟨g1, a1⟩, f7⟩ := q9
  have n9 : jw_Nw _ μ s9 := fun q hq => (f7 q (by omega)).trans (n9 q hq)
  have h1 := (f7 _ (by omega)).trans h1
  have h := h.nw f7 (by omega)
  have h0 := h.1
  refine jw_iconst (pc' := 122) (v := nI 1) jd_BranchworkModel_put_121 (by decide +kernel) rfl ?_
  refine jw_newa (pc' := 124) (N := 1) (i := 0) (a0 := (1, .inl (fun _ => 0))) (ty := .int) (atype := .int) hR jq_116 rfl rfl jd_BranchworkModel_put_122 (fun _ => rfl) (by decide +kernel) (by decide +kernel) (by decide +kernel) (by omega) (by omega) rfl (fun μ a2 f9 => ?_)
  have h0 := (f9 _ (by omega)).trans h0
  have h1 := (f9 _ (by omega)).trans h1
  have a1 := (f9 _ (by omega)).trans a1
  refine jw_dup (pc' := 125) jd_BranchworkModel_put_124 rfl rfl ?_
  refine jw_iconst (pc' := 126) (v := nI 0) jd_BranchworkModel_put_125 (by decide +kernel) rfl ?_
  refine jw_iload_n (pc' := 127) jd_BranchworkModel_put_126 rfl rfl rfl ?_
  have n9 : jw_Nw _ μ s9 := fun q hq => (f9 q (by omega)).trans (n9 q hq)
  have h := h.o f9 (by omega)
  refine jw_iast (pc' := 128) (i := 0) jd_BranchworkModel_put_127 a2 rfl (vp_in_nI (n := 0) (by omega) (by omega)) rfl (fun μ a2 f9 => ?_)
  have n9 : jw_Nw _ μ s9 := fun q hq => (f9 q (by omega)).trans (n9 q hq)
  have h := h.o f9 (by omega)
  have a1 := (f9 _ (by omega)).trans a1
  have h1 := (f9 _ (by omega)).trans h1
  refine jw_callS (pc' := 131) hR (br_joined01 a1 a2 (by omega) (by omega)) jm_BranchworkModel_joined jq_1182 jd_BranchworkModel_put_128 rfl rfl (Nat.le_of_ble_eq_true rfl) (by omega) (by decide) (by omega) (by omega) rfl (fun v μ s9 q9 hle => ?_)
  obtain ⟨rfl, rfl, ⟨g3, a3⟩, f7⟩ := q9
  have n9 : jw_Nw _ μ s9 := fun q hq => (f7 q (by omega)).trans (n9 q hq)
  have h1 := (f7 _ (by omega)).trans h1
  have h := h.nw f7 (by omega)
  refine jw_aload (pc' := 133) jd_BranchworkModel_put_131 rfl rfl ?_
  refine jw_iload_n (pc' := 134) jd_BranchworkModel_put_133 rfl rfl rfl ?_
  refine jw_aload (pc' := 136) jd_BranchworkModel_put_134 rfl rfl ?_
  refine jw_alen (pc' := 137) (i := 0) jd_BranchworkModel_put_136 (by assumption) rfl rfl rfl ?_
  refine jw_callS (pc' := 140) hR (br_cut1 h1 (by omega)) jm_BranchworkModel_cut1 jq_1178 jd_BranchworkModel_put_137 rfl rfl (Nat.le_of_ble_eq_true rfl) (by omega) (by decide) (by omega) (by omega) rfl (fun v μ s9 q9 hle => ?_)
  obtain ⟨rfl, rfl, ⟨g4, a4⟩, f7⟩ := q9
  have n9 : jw_Nw _ μ s9 := fun q hq => (f7 q (by omega)).trans (n9 q hq)
  have h1 := (f7 _ (by omega)).trans h1
  have a3 := (f7 _ (by omega)).trans a3
  have h := h.nw f7 (by omega)
  refine jw_callS (pc' := 143) hR (br_joined10 a3 a4 (by omega) (by omega)) jm_BranchworkModel_joined jq_1182 jd_BranchworkModel_put_140 rfl rfl (Nat.le_of_ble_eq_true rfl) (by omega) (by decide) (by omega) (by omega) rfl (fun v μ s9 q9 hle => ?_)
  obtain ⟨rfl, rfl, ⟨g5, a5⟩, f7⟩ := q9
  have n9 : jw_Nw _ μ s9 := fun q hq => (f7 q (by omega)).trans (n9 q hq)
  have h1 := (f7 _ (by omega)).trans h1
  have h := h.nw f7 (by omega)
  have h0 := h.1
  refine jw_callV (pc' := 146) hR (br_write h (by omega) hp a5 (by omega) (by omega)) jm_BranchworkModel_write jq_1185 jc_BranchworkModel jd_BranchworkModel_put_143 (by assumption) rfl rfl (Nat.le_of_ble_eq_true rfl) (by omega) (by decide) (by omega) (by omega) rfl (fun v μ s9 q9 hle => ?_)
  obtain ⟨rfl, rfl, ⟨c', h0⟩, f7⟩ := q9
  have h1 := (f7 _ (by omega) (by omega)).trans h1
  refine jw_aload (pc' := 148) jd_BranchworkModel_put_146 rfl rfl ?_
  refine jw_alen (pc' := 149) (i := 0) jd_BranchworkModel_put_148 (by assumption) rfl rfl rfl ?_
  refine jw_iconst (pc' := 150) (v := nI 1) jd_BranchworkModel_put_149 (by decide +kernel) rfl ?_
  refine jw_iadd (pc' := 151) jd_BranchworkModel_put_150 (by decide +kernel : Int32.ofNat 0 + nI 1 = nI 1) rfl ?_
  refine jw_iret hE jd_BranchworkModel_put_151 rfl (by omega) (by omega) ?_
  exact ⟨⟨_, rfl, fun _ => rfl⟩, ⟨_, h0⟩, fun q z z2 => (f7 q (by omega) (by omega)).trans ((n9 q z2).trans (f8 q (by omega)))⟩
theorem br_add (d x : Int64) : jw_Ro mi_BranchworkModel_add 0 o [.long d, .long x] μ hs (some (.long (d * 31 + x))) := by
  refine jw_ro (by decide +kernel) (Nat.le_of_ble_eq_true rfl) rfl (fun k hR hE => ?_)
  refine jw_lload_n (pc' := 1) jd_BranchworkModel_add_0 rfl rfl rfl ?_
  refine jw_ldc2 (pc' := 4) jd_BranchworkModel_add_1 jq_1596 rfl ?_
  refine jw_lmul (pc' := 5) jd_BranchworkModel_add_4 rfl rfl ?_
  refine jw_lload_n (pc' := 6) jd_BranchworkModel_add_5 rfl rfl rfl ?_
  refine jw_ladd (pc' := 7) jd_BranchworkModel_add_6 rfl rfl ?_
  refine jw_lret hE jd_BranchworkModel_add_7 rfl (by omega) (by omega) ?_
  exact ⟨rfl, rfl, rfl⟩
theorem br_digestTree {t : Nat} (h : bz_At o μ t) (d : Int64) : jw_Ro mi_BranchworkModel_digestTree 1 o [.long d, .ref t] μ hs (some (.long (dgr d (fun _ => -1) 12))) := by
  refine jw_ro (by decide +kernel) (Nat.le_of_ble_eq_true rfl) rfl (fun k hR hE => ?_)
  have h0 := h.1
  refine jw_lload_n (pc' := 1) jd_BranchworkModel_digestTree_0 rfl rfl rfl ?_
  refine jw_lstore_n (pc' := 2) (lc' := [(0, _), (2, _), (3, _)]) jd_BranchworkModel_digestTree_1 rfl (Nat.le_of_ble_eq_true rfl) ⟨rfl, rfl, rfl, trivial⟩ rfl ?_
  refine jw_iconst (pc' := 3) (v := nI 0) jd_BranchworkModel_digestTree_2 (by decide +kernel) rfl ?_
  refine jw_istore (pc' := 5) (lc' := [(0, _), (2, _), (3, _), (5, _)]) jd_BranchworkModel_digestTree_3 (Nat.le_of_ble_eq_true rfl) ⟨rfl, rfl, rfl, rfl, trivial⟩ rfl ?_
  have loop : ∀ e i : Nat, i + e = 12 → jw_X mi_BranchworkModel_digestTree o k 0 0 5 [(2, .ref t), (3, .long (dgr d (fun _ => -1) i)), (5, .int (nI i))] [] μ hs := by
    intro e
    induction e with
    | zero =>
      intro i hi
      obtain rfl : i = 12 := by omega
      refine jw_iload (pc' := 7) jd_BranchworkModel_digestTree_5 rfl rfl ?_
      refine jw_bipush (pc' := 9) (v := nI 12) jd_BranchworkModel_digestTree_7 (by decide +kernel) rfl ?_
      refine jw_icmp_ge (tgt := 94) (pc' := 12) jd_BranchworkModel_digestTree_9 (by decide) rfl (fun c => ?_) (fun c => ?_)
      · refine jw_lload_n (pc' := 95) jd_BranchworkModel_digestTree_94 rfl rfl rfl ?_
        refine jw_lret hE jd_BranchworkModel_digestTree_95 rfl (by omega) (by omega) ?_
        exact ⟨rfl, rfl, rfl⟩
      · exact absurd (nI_le (by omega) (by omega)) c
    | succ e ih =>
      intro i hi
      refine jw_iload (pc' := 7) jd_BranchworkModel_digestTree_5 rfl rfl ?_
      refine jw_bipush (pc' := 9) (v := nI 12) jd_BranchworkModel_digestTree_7 (by decide +kernel) rfl ?_
      refine jw_icmp_ge (tgt := 94) (pc' := 12) jd_BranchworkModel_digestTree_9 (by decide) rfl (fun c => ?_) (fun c => ?_)
      · exact absurd ((nI_leI (a := 12) (by omega) (by omega)).mp c) (by omega)
      refine jw_lload_n (pc' := 13) jd_BranchworkModel_digestTree_12 rfl rfl rfl ?_
      refine jw_aload_n (pc' := 14) jd_BranchworkModel_digestTree_13 rfl rfl rfl ?_
      refine jw_iload (pc' := 16) jd_BranchworkModel_digestTree_14 rfl rfl ?_
      refine jw_callV0 (pc' := 19) hR (bz_has h (by omega)) jm_MTree_has jq_1174 jc_MTree jd_BranchworkModel_digestTree_16 (by assumption) rfl rfl (Nat.le_of_ble_eq_true rfl) (by omega) (by decide) (by omega) (by omega) rfl rfl ?_
      refine jw_if_eq (tgt := 34) (pc' := 22) jd_BranchworkModel_digestTree_19 (by decide) rfl (fun c1 => ?_) (fun c1 => ?_)
      rotate_left
      · exact absurd rfl c1
      refine jw_ldc2 (pc' := 37) jd_BranchworkModel_digestTree_34 jq_1600 rfl ?_
      refine jw_callS0 (pc' := 40) hR (br_add _ _) jm_BranchworkModel_add jq_1593 jd_BranchworkModel_digestTree_37 rfl rfl (Nat.le_of_ble_eq_true rfl) (by omega) (by decide) (by omega) (by omega) rfl rfl ?_
      refine jw_lstore_n (pc' := 41) (lc' := [(2, _), (3, _), (5, _)]) jd_BranchworkModel_digestTree_40 rfl (Nat.le_of_ble_eq_true rfl) ⟨rfl, rfl, rfl, trivial⟩ rfl ?_
      refine jw_iconst (pc' := 42) (v := nI 0) jd_BranchworkModel_digestTree_41 (by decide +kernel) rfl ?_
      refine jw_istore (pc' := 44) (lc' := [(2, _), (3, _), (5, _), (6, _)]) jd_BranchworkModel_digestTree_42 (Nat.le_of_ble_eq_true rfl) ⟨rfl, rfl, rfl, rfl, trivial⟩ rfl ?_
      refine jw_aload_n (pc' := 45) jd_BranchworkModel_digestTree_44 rfl rfl rfl ?_
      refine jw_iload (pc' := 47) jd_BranchworkModel_digestTree_45 rfl rfl ?_
      refine jw_callV0 (pc' := 50) hR (bz_has h (by omega)) jm_MTree_has jq_1174 jc_MTree jd_BranchworkModel_digestTree_47 (by assumption) rfl rfl (Nat.le_of_ble_eq_true rfl) (by omega) (by decide) (by omega) (by omega) rfl rfl ?_
      refine jw_if_eq (tgt := 88) (pc' := 53) jd_BranchworkModel_digestTree_50 (by decide) rfl (fun c2 => ?_) (fun c2 => ?_)
      rotate_left
      · exact absurd rfl c2
      refine jw_sub (lc' := [(2, _), (3, _), (5, _)]) ⟨rfl, rfl, rfl, trivial⟩ ?_
      refine jw_iinc (pc' := 91) (lc' := [(2, _), (3, _), (5, _)]) jd_BranchworkModel_digestTree_88 rfl (nI_1 _) (Nat.le_of_ble_eq_true rfl) ⟨rfl, rfl, rfl, trivial⟩ rfl ?_
      refine jw_goto (tgt := 5) jd_BranchworkModel_digestTree_91 (by decide) ?_
      exact ih (i + 1) (by omega)
  refine jw_sub (lc' := [(2, _), (3, _), (5, _)]) ⟨rfl, rfl, rfl, trivial⟩ ?_
  exact loop 12 0 (by omega)
end
