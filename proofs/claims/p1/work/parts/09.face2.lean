section
variable {o : jw_O} {μ : jw_Mem} {hs b : Nat}
theorem by_requireFile {t : Nat} {N : Nat → Nat} {G : Nat → Nat → Int32} (h : bt_At o μ t N (fun _ => 0) G) (x : Int32) : jw_SpX mi_Branchwork_requireFile 6 1 6 o [.ref t, .int x] μ hs (fun v μ' s' => False) (fun E μ' s' => E = jx_IO ∧ μ' = μ) := by
  refine jw_specX (by decide +kernel) (Nat.le_of_ble_eq_true rfl) rfl (fun k hR hX => ?_)
  have h0 := h.1
  have hh : jw_Ro mi_Tree_has 1 o [.ref t, .int x] μ hs (some (.int 0)) := by
    by_cases hx : jx_in x
    · obtain ⟨p, hp, rfl⟩ := hx.nat
      exact bt_has h hp
    · exact bt_hasOut h (jx_out hx)
  refine jw_aload_n (pc' := 1) jd_Branchwork_requireFile_0 rfl rfl rfl ?_
  refine jw_iload_n (pc' := 2) jd_Branchwork_requireFile_1 rfl rfl rfl ?_
  refine jw_callV0 (pc' := 5) hR (hh) jm_Tree_has jq_543 jc_Tree jd_Branchwork_requireFile_2 (by assumption) rfl rfl (Nat.le_of_ble_eq_true rfl) (by omega) (by decide) (by omega) (by omega) rfl rfl ?_
  refine jw_if_ne (tgt := 19) (pc' := 8) jd_Branchwork_requireFile_5 (by decide) rfl (fun c => ?_) (fun c => ?_)
  · exact absurd rfl c
  refine jw_throwSW hR hX jt_IndexOutOfBoundsException js_Branchwork_355 jd_Branchwork_requireFile_8 jd_Branchwork_requireFile_11 jd_Branchwork_requireFile_12 jd_Branchwork_requireFile_15 jd_Branchwork_requireFile_18 (Nat.le_of_ble_eq_true rfl) (by omega) (by omega) (by omega) (fun s9 hle9 => ?_)
  exact ⟨rfl, rfl⟩
theorem by_cut (h : bw_New o μ b) (x y : Int32) : jy_F mi_Branchwork_cut o [.ref b, .int x, .int y] μ hs b [jx_IO] 1 (.int 0) := by
  refine jw_specX (by decide +kernel) (Nat.le_of_ble_eq_true rfl) rfl (fun k hR hX => ?_)
  obtain ⟨h0, hT, -⟩ := h
  refine jw_aload_n (pc' := 1) jd_Branchwork_cut_0 rfl rfl rfl ?_
  refine jw_get (pc' := 4) (kf := 0) jc_Branchwork (by decide) jq_283 jd_Branchwork_cut_1 (by assumption) rfl rfl ?_
  refine jw_iload_n (pc' := 5) jd_Branchwork_cut_4 rfl rfl rfl ?_
  refine jw_callSX (pc' := 8) hR (by_requireFile hT x) jm_Branchwork_requireFile jq_640 jd_Branchwork_cut_5 rfl rfl (Nat.le_of_ble_eq_true rfl) (by omega) (by decide) (by omega) (by omega) rfl (fun E9 q9 μ s9 hΨ hle9 => jw_out hX (by omega) (by omega) ?_) (fun v μ9 s9 q9 hle => ?_)
  · obtain ⟨rfl, rfl⟩ := hΨ
    exact ⟨⟨0, rfl, rfl⟩, jw_Fr.rf⟩
  · exact q9.elim
theorem by_rename (h : bw_New o μ b) (x y : Int32) : jy_F mi_Branchwork_rename o [.ref b, .int x, .int y] μ hs b [jx_IO, jx_IS] 1 (.int 0) := by
  refine jw_specX (by decide +kernel) (Nat.le_of_ble_eq_true rfl) rfl (fun k hR hX => ?_)
  obtain ⟨h0, hT, -⟩ := h
  refine jw_aload_n (pc' := 1) jd_Branchwork_rename_0 rfl rfl rfl ?_
  refine jw_get (pc' := 4) (kf := 0) jc_Branchwork (by decide) jq_283 jd_Branchwork_rename_1 (by assumption) rfl rfl ?_
  refine jw_iload_n (pc' := 5) jd_Branchwork_rename_4 rfl rfl rfl ?_
  refine jw_callSX (pc' := 8) hR (by_requireFile hT x) jm_Branchwork_requireFile jq_640 jd_Branchwork_rename_5 rfl rfl (Nat.le_of_ble_eq_true rfl) (by omega) (by decide) (by omega) (by omega) rfl (fun E9 q9 μ s9 hΨ hle9 => jw_out hX (by omega) (by omega) ?_) (fun v μ9 s9 q9 hle => ?_)
  · obtain ⟨rfl, rfl⟩ := hΨ
    exact ⟨⟨0, rfl, rfl⟩, jw_Fr.rf⟩
  · exact q9.elim
theorem by_remove (h : bw_New o μ b) (x : Int32) : jy_F mi_Branchwork_remove o [.ref b, .int x] μ hs b [jx_IO] 1 (.int 0) := by
  refine jw_specX (by decide +kernel) (Nat.le_of_ble_eq_true rfl) rfl (fun k hR hX => ?_)
  obtain ⟨h0, hT, -⟩ := h
  refine jw_aload_n (pc' := 1) jd_Branchwork_remove_0 rfl rfl rfl ?_
  refine jw_get (pc' := 4) (kf := 0) jc_Branchwork (by decide) jq_283 jd_Branchwork_remove_1 (by assumption) rfl rfl ?_
  refine jw_iload_n (pc' := 5) jd_Branchwork_remove_4 rfl rfl rfl ?_
  refine jw_callSX (pc' := 8) hR (by_requireFile hT x) jm_Branchwork_requireFile jq_640 jd_Branchwork_remove_5 rfl rfl (Nat.le_of_ble_eq_true rfl) (by omega) (by decide) (by omega) (by omega) rfl (fun E9 q9 μ s9 hΨ hle9 => jw_out hX (by omega) (by omega) ?_) (fun v μ9 s9 q9 hle => ?_)
  · obtain ⟨rfl, rfl⟩ := hΨ
    exact ⟨⟨0, rfl, rfl⟩, jw_Fr.rf⟩
  · exact q9.elim
def kx_path (x : Int32) : Nat := if ¬ jx_in x then 1 else 0
theorem by_status0 (h : bw_New o μ b) (x : Int32) : jw_SpX mi_Branchwork_status 7 1 6 o [.ref b, .int x] μ hs (fun v μ' s' => v = some (.int (nI 0)) ∧ kx_path x = 0 ∧ μ' = μ ∧ s' = hs) (fun E μ' s' => E = jx_IO ∧ kx_path x = 1 ∧ μ' = μ) := by
  refine jw_specX (by decide +kernel) (Nat.le_of_ble_eq_true rfl) rfl (fun k hR hX => ?_)
  have hE := hX.E
  have hN := h
  obtain ⟨h0, hT, hH, -⟩ := h
  have hT0 := hT.1
  have hH0 := hH.1
  have hU0 := hH.2.2.1.1
  refine jw_iload_n (pc' := 1) jd_Branchwork_status_0 rfl rfl rfl ?_
  refine jw_callSX (pc' := 4) hR (by_requirePath x) jm_Branchwork_requirePath jq_527 jd_Branchwork_status_1 rfl rfl (Nat.le_of_ble_eq_true rfl) (by omega) (by decide) (by omega) (by omega) rfl (fun E9 q9 μ s9 hΨ hle9 => jw_out hX (by omega) (by omega) ?_) (fun v μ9 s9 q9 hle => ?_)
  · obtain ⟨rfl, rfl, hin⟩ := hΨ
    exact ⟨rfl, by unfold kx_path; rw [if_pos hin], rfl⟩
  obtain ⟨rfl, rfl, rfl, hin⟩ := q9
  obtain ⟨p, hp, rfl⟩ := hin.nat
  have hC := hT.2.2.2.1 p hp
  have hC0 := hC.1
  refine jw_aload_n (pc' := 5) jd_Branchwork_status_4 rfl rfl rfl ?_
  refine jw_get (pc' := 8) (kf := 1) jc_Branchwork (by decide) jq_284 jd_Branchwork_status_5 (by assumption) rfl rfl ?_
  refine jw_aload_n (pc' := 9) jd_Branchwork_status_8 rfl rfl rfl ?_
  refine jw_callV0 (pc' := 12) hR (by_head hN) jm_Branchwork_head jq_494 jc_Branchwork jd_Branchwork_status_9 (by assumption) rfl rfl (Nat.le_of_ble_eq_true rfl) (by omega) (by decide) (by omega) (by omega) rfl rfl ?_
  refine jw_callV0 (pc' := 15) hR (by_treeOf hH (by decide)) jm_History_treeOf jq_531 jc_History jd_Branchwork_status_12 (by assumption) rfl rfl (Nat.le_of_ble_eq_true rfl) (by omega) (by decide) (by omega) (by omega) rfl rfl ?_
  refine jw_astore_n (pc' := 16) (lc' := [(0, _), (1, _), (2, _)]) jd_Branchwork_status_15 rfl (Nat.le_of_ble_eq_true rfl) ⟨rfl, rfl, rfl, trivial⟩ rfl ?_
  refine jw_aload_n (pc' := 17) jd_Branchwork_status_16 rfl rfl rfl ?_
  refine jw_get (pc' := 20) (kf := 0) jc_Branchwork (by decide) jq_283 jd_Branchwork_status_17 (by assumption) rfl rfl ?_
  refine jw_iload_n (pc' := 21) jd_Branchwork_status_20 rfl rfl rfl ?_
  refine jw_callV0 (pc' := 24) hR (bt_fileAt hT hp) jm_Tree_fileAt jq_532 jc_Tree jd_Branchwork_status_21 (by assumption) rfl rfl (Nat.le_of_ble_eq_true rfl) (by omega) (by decide) (by omega) (by omega) rfl rfl ?_
  refine jw_aload_n (pc' := 25) jd_Branchwork_status_24 rfl rfl rfl ?_
  refine jw_iload_n (pc' := 26) jd_Branchwork_status_25 rfl rfl rfl ?_
  refine jw_callV0 (pc' := 29) hR (bt_fileAt hH.2.2.1 hp) jm_Tree_fileAt jq_532 jc_Tree jd_Branchwork_status_26 (by assumption) rfl rfl (Nat.le_of_ble_eq_true rfl) (by omega) (by decide) (by omega) (by omega) rfl rfl ?_
  refine jw_callV0 (pc' := 32) hR (bc_sameAs hC (Or.inl rfl) (Nat.zero_le _) (hH.2.2.1.2.2.2.1 p hp) (Or.inl rfl) (Nat.zero_le _) (Or.inl ⟨rfl, rfl, rfl, fun _ _ => rfl⟩)) jm_Content_sameAs jq_533 jc_Content jd_Branchwork_status_29 (by assumption) rfl rfl (Nat.le_of_ble_eq_true rfl) (by omega) (by decide) (by omega) (by omega) rfl rfl ?_
  refine jw_if_eq (tgt := 37) (pc' := 35) jd_Branchwork_status_32 (by decide) rfl (fun c => ?_) (fun c => ?_)
  · exact absurd c (by decide)
  refine jw_iconst (pc' := 36) (v := nI 0) jd_Branchwork_status_35 (by decide +kernel) rfl ?_
  refine jw_iret hE jd_Branchwork_status_36 rfl (by omega) (by omega) ?_
  exact ⟨rfl, by unfold kx_path; rw [if_neg (fun z => z hin)], rfl, rfl⟩
theorem jy_of {mi : jw_M} {As : List Value} {cs : List String} {n : Nat} {r : Value} {d mc ms : Nat} {Φ : Option Value → jw_Mem → Nat → Prop} {Ψ : String → jw_Mem → Nat → Prop} (h : jw_SpX mi 9 8 48 o As μ hs Φ Ψ) (h1 : ∀ v μ' s', Φ v μ' s' → v = some r ∧ n = 0 ∧ jw_Fr μ μ' b 984) (h2 : ∀ E μ' s', Ψ E μ' s' → (∃ i, cs[i]? = some E ∧ n = i + 1) ∧ jw_Fr μ μ' b 984) : jy_F mi o As μ hs b cs n r := by
  intro p e ha hc hk s m args below hf happ hP hK
  obtain ⟨t, out, a1, a2, a3, a4⟩ := h p e ha hc hk s m args below hf happ hP hK
  refine ⟨t, out, a1, a2, a3, ?_⟩
  rcases a4 with ⟨⟨⟨v, μ', q1, q2, q3⟩, q4⟩, q5⟩ | ⟨q, q1, E, ce, L, ⟨⟨μ', q2, q3⟩, q4⟩, q5⟩
  · exact Or.inl ⟨⟨⟨v, μ', q1, q2, h1 _ _ _ q3⟩, q4⟩, q5⟩
  · exact Or.inr ⟨q, q1, E, ce, L, ⟨⟨μ', q2, h2 _ _ _ q3⟩, q4⟩, q5⟩
end
