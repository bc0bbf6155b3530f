theorem jd_BranchworkModel_isNoBranch_0 : decode mi_BranchworkModel_isNoBranch.2.1 0 = .ok (.aload_n 0, 1) := by decide +kernel
theorem jd_BranchworkModel_isNoBranch_1 : decode mi_BranchworkModel_isNoBranch.2.1 1 = .ok (.iload_n 1, 1) := by decide +kernel
theorem jd_BranchworkModel_isNoBranch_2 : decode mi_BranchworkModel_isNoBranch.2.1 2 = .ok (.iconst 0, 1) := by decide +kernel
theorem jd_BranchworkModel_isNoBranch_3 : decode mi_BranchworkModel_isNoBranch.2.1 3 = .ok (.aload_n 0, 1) := by decide +kernel
theorem jd_BranchworkModel_isNoBranch_4 : decode mi_BranchworkModel_isNoBranch.2.1 4 = .ok (.getfield 34, 3) := by decide +kernel
theorem jd_BranchworkModel_isNoBranch_7 : decode mi_BranchworkModel_isNoBranch.2.1 7 = .ok (.invokevirtual 70, 3) := by decide +kernel
theorem jd_BranchworkModel_isNoBranch_10 : decode mi_BranchworkModel_isNoBranch.2.1 10 = .ok (.iconst 1, 1) := by decide +kernel
theorem jd_BranchworkModel_isNoBranch_11 : decode mi_BranchworkModel_isNoBranch.2.1 11 = .ok (.isub, 1) := by decide +kernel
theorem jd_BranchworkModel_isNoBranch_12 : decode mi_BranchworkModel_isNoBranch.2.1 12 = .ok (.invokestatic 59, 3) := by decide +kernel
theorem jd_BranchworkModel_isNoBranch_15 : decode mi_BranchworkModel_isNoBranch.2.1 15 = .ok (.ifCond .ne 7, 3) := by decide +kernel
theorem jd_BranchworkModel_isNoBranch_18 : decode mi_BranchworkModel_isNoBranch.2.1 18 = .ok (.iconst 1, 1) := by decide +kernel
theorem jd_BranchworkModel_isNoBranch_19 : decode mi_BranchworkModel_isNoBranch.2.1 19 = .ok (.goto 4, 3) := by decide +kernel
theorem jd_BranchworkModel_isNoBranch_22 : decode mi_BranchworkModel_isNoBranch.2.1 22 = .ok (.iconst 0, 1) := by decide +kernel
theorem jd_BranchworkModel_isNoBranch_23 : decode mi_BranchworkModel_isNoBranch.2.1 23 = .ok (.iconst 1, 1) := by decide +kernel
theorem jd_BranchworkModel_isNoBranch_24 : decode mi_BranchworkModel_isNoBranch.2.1 24 = .ok (.invokevirtual 108, 3) := by decide +kernel
theorem jd_BranchworkModel_isNoBranch_27 : decode mi_BranchworkModel_isNoBranch.2.1 27 = .ok (.ireturn, 1) := by decide +kernel
theorem jd_BranchworkModel_statusOf_0 : decode mi_BranchworkModel_statusOf.2.1 0 = .ok (.aload_n 0, 1) := by decide +kernel
theorem jd_BranchworkModel_statusOf_1 : decode mi_BranchworkModel_statusOf.2.1 1 = .ok (.invokevirtual 94, 3) := by decide +kernel
theorem jd_BranchworkModel_statusOf_4 : decode mi_BranchworkModel_statusOf.2.1 4 = .ok (.astore_n 2, 1) := by decide +kernel
theorem jd_BranchworkModel_statusOf_5 : decode mi_BranchworkModel_statusOf.2.1 5 = .ok (.aload_n 0, 1) := by decide +kernel
theorem jd_BranchworkModel_statusOf_6 : decode mi_BranchworkModel_statusOf.2.1 6 = .ok (.getfield 40, 3) := by decide +kernel
theorem jd_BranchworkModel_statusOf_9 : decode mi_BranchworkModel_statusOf.2.1 9 = .ok (.iload_n 1, 1) := by decide +kernel
theorem jd_BranchworkModel_statusOf_10 : decode mi_BranchworkModel_statusOf.2.1 10 = .ok (.invokevirtual 67, 3) := by decide +kernel
theorem jd_BranchworkModel_statusOf_13 : decode mi_BranchworkModel_statusOf.2.1 13 = .ok (.aload_n 2, 1) := by decide +kernel
theorem jd_BranchworkModel_statusOf_14 : decode mi_BranchworkModel_statusOf.2.1 14 = .ok (.iload_n 1, 1) := by decide +kernel
theorem jd_BranchworkModel_statusOf_15 : decode mi_BranchworkModel_statusOf.2.1 15 = .ok (.invokevirtual 67, 3) := by decide +kernel
theorem jd_BranchworkModel_statusOf_18 : decode mi_BranchworkModel_statusOf.2.1 18 = .ok (.if_icmp .eq 20, 3) := by decide +kernel
theorem jd_BranchworkModel_statusOf_21 : decode mi_BranchworkModel_statusOf.2.1 21 = .ok (.aload_n 0, 1) := by decide +kernel
theorem jd_BranchworkModel_statusOf_22 : decode mi_BranchworkModel_statusOf.2.1 22 = .ok (.getfield 40, 3) := by decide +kernel
theorem jd_BranchworkModel_statusOf_25 : decode mi_BranchworkModel_statusOf.2.1 25 = .ok (.iload_n 1, 1) := by decide +kernel
theorem jd_BranchworkModel_statusOf_26 : decode mi_BranchworkModel_statusOf.2.1 26 = .ok (.invokevirtual 67, 3) := by decide +kernel
theorem jd_BranchworkModel_statusOf_29 : decode mi_BranchworkModel_statusOf.2.1 29 = .ok (.ifCond .eq 7, 3) := by decide +kernel
theorem jd_BranchworkModel_statusOf_32 : decode mi_BranchworkModel_statusOf.2.1 32 = .ok (.iconst 1, 1) := by decide +kernel
theorem jd_BranchworkModel_statusOf_33 : decode mi_BranchworkModel_statusOf.2.1 33 = .ok (.goto 4, 3) := by decide +kernel
theorem jd_BranchworkModel_statusOf_36 : decode mi_BranchworkModel_statusOf.2.1 36 = .ok (.iconst 3, 1) := by decide +kernel
theorem jd_BranchworkModel_statusOf_37 : decode mi_BranchworkModel_statusOf.2.1 37 = .ok (.ireturn, 1) := by decide +kernel
theorem jd_BranchworkModel_statusOf_38 : decode mi_BranchworkModel_statusOf.2.1 38 = .ok (.aload_n 0, 1) := by decide +kernel
theorem jd_BranchworkModel_statusOf_39 : decode mi_BranchworkModel_statusOf.2.1 39 = .ok (.getfield 40, 3) := by decide +kernel
theorem jd_BranchworkModel_statusOf_42 : decode mi_BranchworkModel_statusOf.2.1 42 = .ok (.getfield 105, 3) := by decide +kernel
theorem jd_BranchworkModel_statusOf_45 : decode mi_BranchworkModel_statusOf.2.1 45 = .ok (.iload_n 1, 1) := by decide +kernel
theorem jd_BranchworkModel_statusOf_46 : decode mi_BranchworkModel_statusOf.2.1 46 = .ok (.aaload, 1) := by decide +kernel
theorem jd_BranchworkModel_statusOf_47 : decode mi_BranchworkModel_statusOf.2.1 47 = .ok (.aload_n 2, 1) := by decide +kernel
theorem jd_BranchworkModel_statusOf_48 : decode mi_BranchworkModel_statusOf.2.1 48 = .ok (.getfield 105, 3) := by decide +kernel
theorem jd_BranchworkModel_statusOf_51 : decode mi_BranchworkModel_statusOf.2.1 51 = .ok (.iload_n 1, 1) := by decide +kernel
theorem jd_BranchworkModel_statusOf_52 : decode mi_BranchworkModel_statusOf.2.1 52 = .ok (.aaload, 1) := by decide +kernel
theorem jd_BranchworkModel_statusOf_53 : decode mi_BranchworkModel_statusOf.2.1 53 = .ok (.invokestatic 126, 3) := by decide +kernel
theorem jd_BranchworkModel_statusOf_56 : decode mi_BranchworkModel_statusOf.2.1 56 = .ok (.ifCond .eq 7, 3) := by decide +kernel
theorem jd_BranchworkModel_statusOf_59 : decode mi_BranchworkModel_statusOf.2.1 59 = .ok (.iconst 0, 1) := by decide +kernel
theorem jd_BranchworkModel_statusOf_60 : decode mi_BranchworkModel_statusOf.2.1 60 = .ok (.goto 4, 3) := by decide +kernel
theorem jd_BranchworkModel_statusOf_63 : decode mi_BranchworkModel_statusOf.2.1 63 = .ok (.iconst 2, 1) := by decide +kernel
theorem jd_BranchworkModel_statusOf_64 : decode mi_BranchworkModel_statusOf.2.1 64 = .ok (.ireturn, 1) := by decide +kernel
section
variable {o : jw_O} {μ : jw_Mem} {hs r : Nat}
theorem bq_thrown {th : Int32} {fs : List Value} (h : μ r = some (.inr (9, .int th :: fs))) : jw_Ro mi_BranchworkModel_thrown 0 o [.ref r] μ hs (some (.int th)) := by
  refine jw_ro (by decide +kernel) (Nat.le_of_ble_eq_true rfl) rfl (fun k hR hE => ?_)
  refine jw_aload_n (pc' := 1) jd_BranchworkModel_thrown_0 rfl rfl rfl ?_
  refine jw_get (pc' := 4) (kf := 0) jc_BranchworkModel (by decide) jq_1130 jd_BranchworkModel_thrown_1 (by assumption) rfl rfl ?_
  refine jw_iret hE jd_BranchworkModel_thrown_4 rfl (by omega) (by omega) ?_
  exact ⟨rfl, rfl, rfl⟩
theorem bq_isIn {x y z : Int32} {v : Nat} (h : (v = 1 ∧ ¬ x < y ∧ ¬ z < x) ∨ (v = 0 ∧ (x < y ∨ z < x))) : jw_Ro mi_BranchworkModel_isIn 0 o [.int x, .int y, .int z] μ hs (some (.int (nI v))) := by
  refine jw_ro (by decide +kernel) (Nat.le_of_ble_eq_true rfl) rfl (fun k hR hE => ?_)
  refine jw_iload_n (pc' := 1) jd_BranchworkModel_isIn_0 rfl rfl rfl ?_
  refine jw_iload_n (pc' := 2) jd_BranchworkModel_isIn_1 rfl rfl rfl ?_
  refine jw_icmp_lt (tgt := 14) (pc' := 5) jd_BranchworkModel_isIn_2 (by decide) rfl (fun c => ?_) (fun c => ?_)
  · refine jw_iconst (pc' := 15) (v := nI 0) jd_BranchworkModel_isIn_14 (by decide +kernel) rfl ?_
    refine jw_zret hE jd_BranchworkModel_isIn_15 rfl (by first | exact vp_nar_int _ | decide +kernel) (by omega) (by omega) ?_
    rcases h with ⟨-, h, -⟩ | ⟨rfl, -⟩
    · exact absurd c h
    · exact ⟨rfl, rfl, rfl⟩
  refine jw_iload_n (pc' := 6) jd_BranchworkModel_isIn_5 rfl rfl rfl ?_
  refine jw_iload_n (pc' := 7) jd_BranchworkModel_isIn_6 rfl rfl rfl ?_
  refine jw_icmp_gt (tgt := 14) (pc' := 10) jd_BranchworkModel_isIn_7 (by decide) rfl (fun c1 => ?_) (fun c1 => ?_)
  · refine jw_iconst (pc' := 15) (v := nI 0) jd_BranchworkModel_isIn_14 (by decide +kernel) rfl ?_
    refine jw_zret hE jd_BranchworkModel_isIn_15 rfl (by first | exact vp_nar_int _ | decide +kernel) (by omega) (by omega) ?_
    rcases h with ⟨-, -, h⟩ | ⟨rfl, -⟩
    · exact absurd c1 h
    · exact ⟨rfl, rfl, rfl⟩
  · refine jw_iconst (pc' := 11) (v := nI 1) jd_BranchworkModel_isIn_10 (by decide +kernel) rfl ?_
    refine jw_goto (tgt := 15) jd_BranchworkModel_isIn_11 (by decide) ?_
    refine jw_zret hE jd_BranchworkModel_isIn_15 rfl (by first | exact vp_nar_int _ | decide +kernel) (by omega) (by omega) ?_
    rcases h with ⟨rfl, -⟩ | ⟨-, h⟩
    · exact ⟨rfl, rfl, rfl⟩
    · exact (h.elim c c1).elim
/-- refuse with nothing thrown so far -/
theorem bq_refuse0 (h : bq_At o μ r (nI 0)) (w : Int32) : jw_Ro mi_BranchworkModel_refuse 0 o [.ref r, .int (nI 0), .int w] μ hs (some (.int (nI 0))) := by
  refine jw_ro (by decide +kernel) (Nat.le_of_ble_eq_true rfl) rfl (fun k hR hE => ?_)
  have h0 := h.1
  refine jw_iload_n (pc' := 1) jd_BranchworkModel_refuse_0 rfl rfl rfl ?_
  refine jw_if_eq (tgt := 16) (pc' := 4) jd_BranchworkModel_refuse_1 (by decide) rfl (fun c => ?_) (fun c => ?_)
  rotate_left
  · exact absurd rfl c
  refine jw_aload_n (pc' := 17) jd_BranchworkModel_refuse_16 rfl rfl rfl ?_
  refine jw_get (pc' := 20) (kf := 0) jc_BranchworkModel (by decide) jq_1130 jd_BranchworkModel_refuse_17 (by assumption) rfl rfl ?_
  refine jw_if_le (tgt := 27) (pc' := 23) jd_BranchworkModel_refuse_20 (by decide) rfl (fun c1 => ?_) (fun c1 => ?_)
  rotate_left
  · exact absurd (by decide) c1
  refine jw_iconst (pc' := 28) (v := nI 0) jd_BranchworkModel_refuse_27 (by decide +kernel) rfl ?_
  refine jw_zret hE jd_BranchworkModel_refuse_28 rfl (by first | exact vp_nar_int _ | decide +kernel) (by omega) (by omega) ?_
  exact ⟨rfl, rfl, rfl⟩
theorem bq_refuse1 (h : bq_At o μ r (nI 0)) {w : Nat} (hw : 0 < w) (hw2 : w < 9) : jw_Spec mi_BranchworkModel_refuse 0 0 0 o [.ref r, .int (nI 1), .int (nI w)] μ hs (fun v μ' s' => v = some (.int (nI 1)) ∧ s' = hs ∧ bq_At o μ' r (nI w) ∧ jw_Fr μ μ' r 1) := by
  refine jw_spec (by decide +kernel) (Nat.le_of_ble_eq_true rfl) rfl (fun k hR hE => ?_)
  have h0 := h.1
  refine jw_iload_n (pc' := 1) jd_BranchworkModel_refuse_0 rfl rfl rfl ?_
  refine jw_if_eq (tgt := 16) (pc' := 4) jd_BranchworkModel_refuse_1 (by decide) rfl (fun c => ?_) (fun c => ?_)
  · exact absurd c (by decide)
  refine jw_aload_n (pc' := 5) jd_BranchworkModel_refuse_4 rfl rfl rfl ?_
  refine jw_get (pc' := 8) (kf := 0) jc_BranchworkModel (by decide) jq_1130 jd_BranchworkModel_refuse_5 (by assumption) rfl rfl ?_
  refine jw_if_ne (tgt := 16) (pc' := 11) jd_BranchworkModel_refuse_8 (by decide) rfl (fun c1 => ?_) (fun c1 => ?_)
  · exact absurd rfl c1
  refine jw_aload_n (pc' := 12) jd_BranchworkModel_refuse_11 rfl rfl rfl ?_
  refine jw_iload_n (pc' := 13) jd_BranchworkModel_refuse_12 rfl rfl rfl ?_
  refine jw_put (pc' := 16) (kf := 0) (ty := .int) (fs' := [_, _, _, _, _, _, _]) jc_BranchworkModel (by decide) jq_1130 jd_BranchworkModel_refuse_13 rfl (by decide +kernel) (by assumption) (vp_nar_int _) rfl rfl (Nat.le_of_ble_eq_true rfl) rfl (fun μ h0 f9 => ?_)
  refine jw_aload_n (pc' := 17) jd_BranchworkModel_refuse_16 rfl rfl rfl ?_
  refine jw_get (pc' := 20) (kf := 0) jc_BranchworkModel (by decide) jq_1130 jd_BranchworkModel_refuse_17 (by assumption) rfl rfl ?_
  refine jw_if_le (tgt := 27) (pc' := 23) jd_BranchworkModel_refuse_20 (by decide) rfl (fun c2 => ?_) (fun c2 => ?_)
  · exact absurd c2 (nI_nle hw (by omega))
  refine jw_iconst (pc' := 24) (v := nI 1) jd_BranchworkModel_refuse_23 (by decide +kernel) rfl ?_
  refine jw_goto (tgt := 28) jd_BranchworkModel_refuse_24 (by decide) ?_
  refine jw_zret hE jd_BranchworkModel_refuse_28 rfl (by first | exact vp_nar_int _ | decide +kernel) (by omega) (by omega) ?_
  exact ⟨rfl, rfl, h.th (jw_Fr.o f9) h0, jw_Fr.o f9⟩
theorem bq_start0 {th : Int32} (h : bq_At o μ r th) (w : Int32) : jw_Spec mi_BranchworkModel_start 1 0 0 o [.ref r, .int (nI 0), .int w] μ hs (fun v μ' s' => v = some (.int (nI 0)) ∧ s' = hs ∧ bq_At o μ' r (nI 0) ∧ jw_Fr μ μ' r 1) := by
  refine jw_spec (by decide +kernel) (Nat.le_of_ble_eq_true rfl) rfl (fun k hR hE => ?_)
  have h0 := h.1
  refine jw_aload_n (pc' := 1) jd_BranchworkModel_start_0 rfl rfl rfl ?_
  refine jw_iconst (pc' := 2) (v := nI 0) jd_BranchworkModel_start_1 (by decide +kernel) rfl ?_
  refine jw_put (pc' := 5) (kf := 0) (ty := .int) (fs' := [_, _, _, _, _, _, _]) jc_BranchworkModel (by decide) jq_1130 jd_BranchworkModel_start_2 rfl (by decide +kernel) (by assumption) rfl rfl rfl (Nat.le_of_ble_eq_true rfl) rfl (fun μ h0 f9 => ?_)
  have h := h.th (jw_Fr.o f9) h0
  refine jw_aload_n (pc' := 6) jd_BranchworkModel_start_5 rfl rfl rfl ?_
  refine jw_iload_n (pc' := 7) jd_BranchworkModel_start_6 rfl rfl rfl ?_
  refine jw_iload_n (pc' := 8) jd_BranchworkModel_start_7 rfl rfl rfl ?_
  refine jw_callV0 (pc' := 11) hR (bq_refuse0 h w) jm_BranchworkModel_refuse jq_1170 jc_BranchworkModel jd_BranchworkModel_start_8 (by assumption) rfl rfl (Nat.le_of_ble_eq_true rfl) (by omega) (by decide) (by omega) (by omega) rfl rfl ?_
  exact jw_zret hE jd_BranchworkModel_start_11 rfl (by decide) (by omega) (by omega) ⟨rfl, rfl, h, jw_Fr.o f9⟩
theorem bq_start1 {th : Int32} (h : bq_At o μ r th) {w : Nat} (hw : 0 < w) (hw2 : w < 9) : jw_Spec mi_BranchworkModel_start 1 0 0 o [.ref r, .int (nI 1), .int (nI w)] μ hs (fun v μ' s' => v = some (.int (nI 1)) ∧ s' = hs ∧ bq_At o μ' r (nI w) ∧ jw_Fr μ μ' r 1) := by
  refine jw_spec (by decide +kernel) (Nat.le_of_ble_eq_true rfl) rfl (fun k hR hE => ?_)
  have h0 := h.1
  refine jw_aload_n (pc' := 1) jd_BranchworkModel_start_0 rfl rfl rfl ?_
  refine jw_iconst (pc' := 2) (v := nI 0) jd_BranchworkModel_start_1 (by decide +kernel) rfl ?_
  refine jw_put (pc' := 5) (kf := 0) (ty := .int) (fs' := [_, _, _, _, _, _, _]) jc_BranchworkModel (by decide) jq_1130 jd_BranchworkModel_start_2 rfl (by decide +kernel) (by assumption) rfl rfl rfl (Nat.le_of_ble_eq_true rfl) rfl (fun μ h0 f9 => ?_)
  have h := h.th (jw_Fr.o f9) h0
  refine jw_aload_n (pc' := 6) jd_BranchworkModel_start_5 rfl rfl rfl ?_
  refine jw_iload_n (pc' := 7) jd_BranchworkModel_start_6 rfl rfl rfl ?_
  refine jw_iload_n (pc' := 8) jd_BranchworkModel_start_7 rfl rfl rfl ?_
  refine jw_callV (pc' := 11) hR (bq_refuse1 h hw hw2) jm_BranchworkModel_refuse jq_1170 jc_BranchworkModel jd_BranchworkModel_start_8 (by assumption) rfl rfl (Nat.le_of_ble_eq_true rfl) (by omega) (by decide) (by omega) (by omega) rfl (fun v μ s9 q9 hle => ?_)
  obtain ⟨rfl, rfl, h, f8⟩ := q9
  exact jw_zret hE jd_BranchworkModel_start_11 rfl (by decide) (by omega) (by omega) ⟨rfl, rfl, h, (jw_Fr.o f9).trans f8 (by omega) (by omega)⟩
theorem bq_isNoPath (x : Int32) {v : Nat} (hv : v = kx_path x) : jw_Ro mi_BranchworkModel_isNoPath 1 o [.int x] μ hs (some (.int (nI v))) := by
  refine jw_ro (by decide +kernel) (Nat.le_of_ble_eq_true rfl) rfl (fun k hR hE => ?_)
  subst hv
  refine jw_iload_n (pc' := 1) jd_BranchworkModel_isNoPath_0 rfl rfl rfl ?_
  refine jw_iconst (pc' := 2) (v := nI 0) jd_BranchworkModel_isNoPath_1 (by decide +kernel) rfl ?_
  refine jw_bipush (pc' := 4) (v := nI 11) jd_BranchworkModel_isNoPath_2 (by decide +kernel) rfl ?_
  by_cases hx : jx_in x
  · obtain ⟨p, hp, rfl⟩ := hx.nat
    have e : kx_path (nI p) = 0 := by unfold kx_path; rw [if_neg (fun z => z hx)]
    rw [e] at hE
    refine jw_callS0 (pc' := 7) hR (bq_isIn (v := 1) (Or.inl ⟨rfl, nI_pos (by omega), fun z => by have := (nI_ltI (a := 11) (b := p) (by omega) (by omega)).mp z; omega⟩)) jm_BranchworkModel_isIn jq_1163 jd_BranchworkModel_isNoPath_4 rfl rfl (Nat.le_of_ble_eq_true rfl) (by omega) (by decide) (by omega) (by omega) rfl rfl ?_
    refine jw_if_ne (tgt := 14) (pc' := 10) jd_BranchworkModel_isNoPath_7 (by decide) rfl (fun c => ?_) (fun c => ?_)
    · refine jw_iconst (pc' := 15) (v := nI 0) jd_BranchworkModel_isNoPath_14 (by decide +kernel) rfl ?_
      refine jw_zret hE jd_BranchworkModel_isNoPath_15 rfl (by first | exact vp_nar_int _ | decide +kernel) (by omega) (by omega) ?_
      exact ⟨rfl, rfl, rfl⟩
    · exact absurd c (by decide)
  · have e : kx_path x = 1 := by unfold kx_path; rw [if_pos hx]
    rw [e] at hE
    have hx2 : x < nI 0 ∨ nI 11 < x := by
      rcases jx_out hx with z | z
      · exact Or.inl z
      · refine Or.inr ?_
        have a1 := Int32.le_iff_toInt_le.mp z
        refine Int32.lt_iff_toInt_lt.mpr ?_
        rw [nI_toInt (by omega)] at a1 ⊢
        omega
    refine jw_callS0 (pc' := 7) hR (bq_isIn (v := 0) (Or.inr ⟨rfl, hx2⟩)) jm_BranchworkModel_isIn jq_1163 jd_BranchworkModel_isNoPath_4 rfl rfl (Nat.le_of_ble_eq_true rfl) (by omega) (by decide) (by omega) (by omega) rfl rfl ?_
    refine jw_if_ne (tgt := 14) (pc' := 10) jd_BranchworkModel_isNoPath_7 (by decide) rfl (fun c => ?_) (fun c => ?_)
    · exact absurd rfl c
    · refine jw_iconst (pc' := 11) (v := nI 1) jd_BranchworkModel_isNoPath_10 (by decide +kernel) rfl ?_
      refine jw_goto (tgt := 15) jd_BranchworkModel_isNoPath_11 (by decide) ?_
      refine jw_zret hE jd_BranchworkModel_isNoPath_15 rfl (by first | exact vp_nar_int _ | decide +kernel) (by omega) (by omega) ?_
      exact ⟨rfl, rfl, rfl⟩
theorem bq_isNoFile {th : Int32} (h : bq_At o μ r th) (x : Int32) : jw_Ro mi_BranchworkModel_isNoFile 2 o [.ref r, .int x] μ hs (some (.int (nI 1))) := by
  refine jw_ro (by decide +kernel) (Nat.le_of_ble_eq_true rfl) rfl (fun k hR hE => ?_)
  have h0 := h.1
  have hT := h.2.2.2.1
  have hT0 := hT.1
  refine jw_iload_n (pc' := 1) jd_BranchworkModel_isNoFile_0 rfl rfl rfl ?_
  refine jw_callS0 (pc' := 4) hR (bq_isNoPath x rfl) jm_BranchworkModel_isNoPath jq_1160 jd_BranchworkModel_isNoFile_1 rfl rfl (Nat.le_of_ble_eq_true rfl) (by omega) (by decide) (by omega) (by omega) rfl rfl ?_
  by_cases hx : jx_in x
  · have e : kx_path x = 0 := by unfold kx_path; rw [if_neg (fun z => z hx)]
    rw [e]
    obtain ⟨p, hp, rfl⟩ := hx.nat
    refine jw_if_ne (tgt := 18) (pc' := 7) jd_BranchworkModel_isNoFile_4 (by decide) rfl (fun c => ?_) (fun c => ?_)
    · exact absurd rfl c
    refine jw_aload_n (pc' := 8) jd_BranchworkModel_isNoFile_7 rfl rfl rfl ?_
    refine jw_get (pc' := 11) (kf := 4) jc_BranchworkModel (by decide) jq_1134 jd_BranchworkModel_isNoFile_8 (by assumption) rfl rfl ?_
    refine jw_iload_n (pc' := 12) jd_BranchworkModel_isNoFile_11 rfl rfl rfl ?_
    refine jw_callV0 (pc' := 15) hR (bz_has hT hp) jm_MTree_has jq_1174 jc_MTree jd_BranchworkModel_isNoFile_12 (by assumption) rfl rfl (Nat.le_of_ble_eq_true rfl) (by omega) (by decide) (by omega) (by omega) rfl rfl ?_
    refine jw_if_ne (tgt := 22) (pc' := 18) jd_BranchworkModel_isNoFile_15 (by decide) rfl (fun c1 => ?_) (fun c1 => ?_)
    · exact absurd rfl c1
    refine jw_iconst (pc' := 19) (v := nI 1) jd_BranchworkModel_isNoFile_18 (by decide +kernel) rfl ?_
    refine jw_goto (tgt := 23) jd_BranchworkModel_isNoFile_19 (by decide) ?_
    refine jw_zret hE jd_BranchworkModel_isNoFile_23 rfl (by first | exact vp_nar_int _ | decide +kernel) (by omega) (by omega) ?_
    exact ⟨rfl, rfl, rfl⟩
  · have e : kx_path x = 1 := by unfold kx_path; rw [if_pos hx]
    rw [e]
    refine jw_if_ne (tgt := 18) (pc' := 7) jd_BranchworkModel_isNoFile_4 (by decide) rfl (fun c => ?_) (fun c => ?_)
    · refine jw_iconst (pc' := 19) (v := nI 1) jd_BranchworkModel_isNoFile_18 (by decide +kernel) rfl ?_
      refine jw_goto (tgt := 23) jd_BranchworkModel_isNoFile_19 (by decide) ?_
      refine jw_zret hE jd_BranchworkModel_isNoFile_23 rfl (by first | exact vp_nar_int _ | decide +kernel) (by omega) (by omega) ?_
      exact ⟨rfl, rfl, rfl⟩
    · exact absurd c (by decide)
theorem jx_m1lt (x : Int32) : x < nI 0 ∨ nI 0 - 1 < x := by
  rcases fa_three x 0 with z | z | z
  · exact Or.inl z
  · exact Or.inr (by rw [z]; decide)
  · refine Or.inr (Int32.lt_iff_toInt_lt.mpr ?_)
    have a := Int32.lt_iff_toInt_lt.mp z
    have d0 : (0 : Int32).toInt = 0 := by decide
    have d1 : (nI 0 - 1).toInt = -1 := by decide
    omega
theorem bq_isNoCommit {th : Int32} (h : bq_At o μ r th) (x : Int32) : jw_Ro mi_BranchworkModel_isNoCommit 1 o [.ref r, .int x] μ hs (some (.int (nI 1))) := by
  refine jw_ro (by decide +kernel) (Nat.le_of_ble_eq_true rfl) rfl (fun k hR hE => ?_)
  have h0 := h.1
  have hA := h.2.1
  obtain ⟨c1, hA0⟩ := hA.raw
  refine jw_iload_n (pc' := 1) jd_BranchworkModel_isNoCommit_0 rfl rfl rfl ?_
  refine jw_iconst (pc' := 2) (v := nI 0) jd_BranchworkModel_isNoCommit_1 (by decide +kernel) rfl ?_
  refine jw_aload_n (pc' := 3) jd_BranchworkModel_isNoCommit_2 rfl rfl rfl ?_
  refine jw_get (pc' := 6) (kf := 1) jc_BranchworkModel (by decide) jq_1131 jd_BranchworkModel_isNoCommit_3 (by assumption) rfl rfl ?_
  refine jw_callV0 (pc' := 9) hR (bl_size hA) jm_ArrayList_size jq_1255 jc_ArrayList jd_BranchworkModel_isNoCommit_6 (by assumption) rfl rfl (Nat.le_of_ble_eq_true rfl) (by omega) (by decide) (by omega) (by omega) rfl rfl ?_
  refine jw_iconst (pc' := 10) (v := nI 1) jd_BranchworkModel_isNoCommit_9 (by decide +kernel) rfl ?_
  refine jw_isub (pc' := 11) jd_BranchworkModel_isNoCommit_10 rfl rfl ?_
  refine jw_callS0 (pc' := 14) hR (bq_isIn (v := 0) (Or.inr ⟨rfl, jx_m1lt x⟩)) jm_BranchworkModel_isIn jq_1163 jd_BranchworkModel_isNoCommit_11 rfl rfl (Nat.le_of_ble_eq_true rfl) (by omega) (by decide) (by omega) (by omega) rfl rfl ?_
  refine jw_if_eq (tgt := 34) (pc' := 17) jd_BranchworkModel_isNoCommit_14 (by decide) rfl (fun c => ?_) (fun c => ?_)
  rotate_left
  · exact absurd rfl c
  refine jw_iconst (pc' := 35) (v := nI 1) jd_BranchworkModel_isNoCommit_34 (by decide +kernel) rfl ?_
  refine jw_goto (tgt := 39) jd_BranchworkModel_isNoCommit_35 (by decide) ?_
  refine jw_zret hE jd_BranchworkModel_isNoCommit_39 rfl (by first | exact vp_nar_int _ | decide +kernel) (by omega) (by omega) ?_
  exact ⟨rfl, rfl, rfl⟩
theorem bq_head {th : Int32} (h : bq_At o μ r th) : jw_Ro mi_BranchworkModel_head 3 o [.ref r] μ hs (some .null) := by
  refine jw_ro (by decide +kernel) (Nat.le_of_ble_eq_true rfl) rfl (fun k hR hE => ?_)
  obtain ⟨h0, hA, hB, hT, hC, f, h6, hf⟩ := h
  obtain ⟨c1, hB0⟩ := hB.raw
  refine jw_aload_n (pc' := 1) jd_BranchworkModel_head_0 rfl rfl rfl ?_
  refine jw_get (pc' := 4) (kf := 2) jc_BranchworkModel (by decide) jq_1132 jd_BranchworkModel_head_1 (by assumption) rfl rfl ?_
  refine jw_aload_n (pc' := 5) jd_BranchworkModel_head_4 rfl rfl rfl ?_
  refine jw_get (pc' := 8) (kf := 3) jc_BranchworkModel (by decide) jq_1133 jd_BranchworkModel_head_5 (by assumption) rfl rfl ?_
  refine jw_callV0 (pc' := 11) hR (bl_get (i := 0) hB h6 (by omega) (by omega) (by omega) hf) jm_ArrayList_get jq_1233 jc_ArrayList jd_BranchworkModel_head_8 (by assumption) rfl rfl (Nat.le_of_ble_eq_true rfl) (by omega) (by decide) (by omega) (by omega) rfl rfl ?_
  refine jw_castN (pc' := 14) jd_BranchworkModel_head_11 rfl ?_
  refine jw_aret hE jd_BranchworkModel_head_14 rfl (by first | exact Or.inl ⟨_, rfl⟩ | exact Or.inr ⟨_, rfl⟩) (by first | exact Or.inr ⟨_, rfl⟩ | exact Or.inl rfl) (by omega) (by omega) ?_
  exact ⟨rfl, rfl, rfl⟩
theorem bq_headTree {th : Int32} (h : bq_At o μ r th) (hr : r + 7 ≤ hs) : jw_Spec mi_BranchworkModel_headTree 4 2 13 o [.ref r] μ hs (fun v μ' s' => v = some (.ref hs) ∧ s' = hs + 2 ∧ bz_At o μ' hs ∧ jw_Nw μ μ' hs) := by
  refine jw_spec (by decide +kernel) (Nat.le_of_ble_eq_true rfl) rfl (fun k hR hE => ?_)
  have h0 := h.1
  refine jw_aload_n (pc' := 1) jd_BranchworkModel_headTree_0 rfl rfl rfl ?_
  refine jw_callV0 (pc' := 4) hR (bq_head h) jm_BranchworkModel_head jq_1229 jc_BranchworkModel jd_BranchworkModel_headTree_1 (by assumption) rfl rfl (Nat.le_of_ble_eq_true rfl) (by omega) (by decide) (by omega) (by omega) rfl rfl ?_
  refine jw_ifnonnullN (pc' := 7) jd_BranchworkModel_headTree_4 rfl ?_
  refine jw_new (pc' := 10) (fs := [.null]) hR jc_MTree jq_1055 jq_1056 jq_69 jd_BranchworkModel_headTree_7 (by decide +kernel) (by omega) (by omega) rfl (fun μ h1 f9 => ?_)
  refine jw_dup (pc' := 11) jd_BranchworkModel_headTree_10 rfl rfl ?_
  refine jw_callIN (pc' := 14) hR (bz_init h1) jm_MTree_init jn_BranchworkModel_39 jd_BranchworkModel_headTree_11 rfl rfl (Nat.le_of_ble_eq_true rfl) (by omega) (by decide) (by omega) (by omega) rfl (fun v μ s9 q9 hle => ?_)
  obtain ⟨rfl, rfl, hT, f8⟩ := q9
  refine jw_goto (tgt := 24) jd_BranchworkModel_headTree_14 (by decide) ?_
  refine jw_aret hE jd_BranchworkModel_headTree_24 rfl (by first | exact Or.inl ⟨_, rfl⟩ | exact Or.inr ⟨_, rfl⟩) (by first | exact Or.inr ⟨_, rfl⟩ | exact Or.inl rfl) (by omega) (by omega) ?_
  exact ⟨rfl, rfl, hT, fun q hq => (f8 q (by omega)).trans (f9 q (by omega))⟩
theorem bq_isClean {th : Int32} (h : bq_At o μ r th) (hr : r + 7 ≤ hs) : jw_Spec mi_BranchworkModel_isClean 5 2 13 o [.ref r] μ hs (fun v μ' s' => v = some (.int (nI 1)) ∧ s' = hs + 2 ∧ jw_Nw μ μ' hs) := by
  refine jw_spec (by decide +kernel) (Nat.le_of_ble_eq_true rfl) rfl (fun k hR hE => ?_)
  have h0 := h.1
  refine jw_aload_n (pc' := 1) jd_BranchworkModel_isClean_0 rfl rfl rfl ?_
  refine jw_get (pc' := 4) (kf := 4) jc_BranchworkModel (by decide) jq_1134 jd_BranchworkModel_isClean_1 (by assumption) rfl rfl ?_
  refine jw_aload_n (pc' := 5) jd_BranchworkModel_isClean_4 rfl rfl rfl ?_
  refine jw_callV (pc' := 8) hR (bq_headTree h hr) jm_BranchworkModel_headTree jq_1225 jc_BranchworkModel jd_BranchworkModel_isClean_5 (by assumption) rfl rfl (Nat.le_of_ble_eq_true rfl) (by omega) (by decide) (by omega) (by omega) rfl (fun v μ s9 q9 hle => ?_)
  obtain ⟨rfl, rfl, hU, f8⟩ := q9
  have h := h.nw f8 hr
  have hT := h.2.2.2.1
  have hT0 := hT.1
  refine jw_callV0 (pc' := 11) hR (bz_isAs hT hU) jm_MTree_isAs jq_1267 jc_MTree jd_BranchworkModel_isClean_8 (by assumption) rfl rfl (Nat.le_of_ble_eq_true rfl) (by omega) (by decide) (by omega) (by omega) rfl rfl ?_
  refine jw_zret hE jd_BranchworkModel_isClean_11 rfl (by first | exact vp_nar_int _ | decide +kernel) (by omega) (by omega) ?_
  exact ⟨rfl, rfl, f8⟩
theorem bq_isNoBranch {th : Int32} (h : bq_At o μ r th) (x : Int32) : jw_Spec mi_BranchworkModel_isNoBranch 2 0 0 o [.ref r, .int x] μ hs (fun v μ' s' => v = some (.int (nI (kx_z x))) ∧ s' = hs ∧ bq_At o μ' r (nI (kx_z x)) ∧ jw_Fr μ μ' r 1) := by
  refine jw_spec (by decide +kernel) (Nat.le_of_ble_eq_true rfl) rfl (fun k hR hE => ?_)
  have h0 := h.1
  have hB := h.2.2.1
  obtain ⟨c1, hB0⟩ := hB.raw
  refine jw_aload_n (pc' := 1) jd_BranchworkModel_isNoBranch_0 rfl rfl rfl ?_
  refine jw_iload_n (pc' := 2) jd_BranchworkModel_isNoBranch_1 rfl rfl rfl ?_
  refine jw_iconst (pc' := 3) (v := nI 0) jd_BranchworkModel_isNoBranch_2 (by decide +kernel) rfl ?_
  refine jw_aload_n (pc' := 4) jd_BranchworkModel_isNoBranch_3 rfl rfl rfl ?_
  refine jw_get (pc' := 7) (kf := 2) jc_BranchworkModel (by decide) jq_1132 jd_BranchworkModel_isNoBranch_4 (by assumption) rfl rfl ?_
  refine jw_callV0 (pc' := 10) hR (bl_size hB) jm_ArrayList_size jq_1255 jc_ArrayList jd_BranchworkModel_isNoBranch_7 (by assumption) rfl rfl (Nat.le_of_ble_eq_true rfl) (by omega) (by decide) (by omega) (by omega) rfl rfl ?_
  refine jw_iconst (pc' := 11) (v := nI 1) jd_BranchworkModel_isNoBranch_10 (by decide +kernel) rfl ?_
  refine jw_isub (pc' := 12) jd_BranchworkModel_isNoBranch_11 rfl rfl ?_
  by_cases hx : x = 0
  · subst hx
    have e : kx_z 0 = 0 := by decide
    rw [e] at hE
    refine jw_callS0 (pc' := 15) hR (bq_isIn (v := 1) (Or.inl ⟨rfl, by decide, by decide⟩)) jm_BranchworkModel_isIn jq_1163 jd_BranchworkModel_isNoBranch_12 rfl rfl (Nat.le_of_ble_eq_true rfl) (by omega) (by decide) (by omega) (by omega) rfl rfl ?_
    refine jw_if_ne (tgt := 22) (pc' := 18) jd_BranchworkModel_isNoBranch_15 (by decide) rfl (fun c => ?_) (fun c => ?_)
    · refine jw_iconst (pc' := 23) (v := nI 0) jd_BranchworkModel_isNoBranch_22 (by decide +kernel) rfl ?_
      refine jw_iconst (pc' := 24) (v := nI 1) jd_BranchworkModel_isNoBranch_23 (by decide +kernel) rfl ?_
      refine jw_callV (pc' := 27) hR (bq_start0 h _) jm_BranchworkModel_start jq_1166 jc_BranchworkModel jd_BranchworkModel_isNoBranch_24 (by assumption) rfl rfl (Nat.le_of_ble_eq_true rfl) (by omega) (by decide) (by omega) (by omega) rfl (fun v μ s9 q9 hle => ?_)
      obtain ⟨rfl, q9⟩ := q9
      exact jw_zret hE jd_BranchworkModel_isNoBranch_27 rfl (by decide) (by omega) (by omega) ⟨rfl, q9⟩
    · exact absurd c (by decide)
  · have e : kx_z x = 1 := by unfold kx_z; rw [if_neg hx]
    rw [e] at hE
    have hx2 : x < nI 0 ∨ nI 1 - nI 1 < x := by
      rcases fa_three x 0 with z | z | z
      · exact Or.inl z
      · exact absurd z hx
      · exact Or.inr z
    refine jw_callS0 (pc' := 15) hR (bq_isIn (v := 0) (Or.inr ⟨rfl, hx2⟩)) jm_BranchworkModel_isIn jq_1163 jd_BranchworkModel_isNoBranch_12 rfl rfl (Nat.le_of_ble_eq_true rfl) (by omega) (by decide) (by omega) (by omega) rfl rfl ?_
    refine jw_if_ne (tgt := 22) (pc' := 18) jd_BranchworkModel_isNoBranch_15 (by decide) rfl (fun c => ?_) (fun c => ?_)
    · exact absurd rfl c
    refine jw_iconst (pc' := 19) (v := nI 1) jd_BranchworkModel_isNoBranch_18 (by decide +kernel) rfl ?_
    refine jw_goto (tgt := 23) jd_BranchworkModel_isNoBranch_19 (by decide) ?_
    refine jw_iconst (pc' := 24) (v := nI 1) jd_BranchworkModel_isNoBranch_23 (by decide +kernel) rfl ?_
    refine jw_callV (pc' := 27) hR (bq_start1 h (w := 1) (by omega) (by omega)) jm_BranchworkModel_start jq_1166 jc_BranchworkModel jd_BranchworkModel_isNoBranch_24 (by assumption) rfl rfl (Nat.le_of_ble_eq_true rfl) (by omega) (by decide) (by omega) (by omega) rfl (fun v μ s9 q9 hle => ?_)
    obtain ⟨rfl, q9⟩ := q9
    exact jw_zret hE jd_BranchworkModel_isNoBranch_27 rfl (by decide) (by omega) (by omega) ⟨rfl, q9⟩
end
