def dgf (d : Int64) (x : Int32) : Int64 := d * 31 + x.toInt64
def dgr (d : Int64) (f : Nat → Int32) : Nat → Int64
  | 0 => d
  | i + 1 => dgf (dgr d f i) (f i)
/-- the digest of a new store -/
def dg_new : Int64 := dgf (dgr (dgr (dgr (dgr (dgr 58087 mv_many 6) mv_now 3) (fun _ => -1) 1) (fun _ => 0) 12) (fun _ => -1) 12) 0
section
variable {o : jw_O} {μ : jw_Mem} {hs b : Nat}
theorem by_fold (d : Int64) (x : Int32) : jw_Ro mi_Branchwork_fold 0 o [.long d, .int x] μ hs (some (.long (dgf d x))) := by
  refine jw_ro (by decide +kernel) (Nat.le_of_ble_eq_true rfl) rfl (fun k hR hE => ?_)
  refine jw_lload_n (pc' := 1) jd_Branchwork_fold_0 rfl rfl rfl ?_
  refine jw_ldc2 (pc' := 4) jd_Branchwork_fold_1 jq_489 rfl ?_
  refine jw_lmul (pc' := 5) jd_Branchwork_fold_4 rfl rfl ?_
  refine jw_iload_n (pc' := 6) jd_Branchwork_fold_5 rfl rfl rfl ?_
  refine jw_i2l (pc' := 7) jd_Branchwork_fold_6 rfl rfl ?_
  refine jw_ladd (pc' := 8) jd_Branchwork_fold_7 rfl rfl ?_
  refine jw_lret hE jd_Branchwork_fold_8 rfl (by omega) (by omega) ?_
  exact ⟨rfl, rfl, rfl⟩
theorem by_foldTree {t : Nat} (h : bt_At o μ t (fun _ => 0) (fun _ => 0) (fun _ _ => 0)) (d : Int64) : jw_Ro mi_Branchwork_foldTree 2 o [.long d, .ref t] μ hs (some (.long (dgr d (fun _ => -1) 12))) := by
  refine jw_ro (by decide +kernel) (Nat.le_of_ble_eq_true rfl) rfl (fun k hR hE => ?_)
  have h0 := h.1
  refine jw_lload_n (pc' := 1) jd_Branchwork_foldTree_0 rfl rfl rfl ?_
  refine jw_lstore_n (pc' := 2) (lc' := [(0, _), (2, _), (3, _)]) jd_Branchwork_foldTree_1 rfl (Nat.le_of_ble_eq_true rfl) ⟨rfl, rfl, rfl, trivial⟩ rfl ?_
  refine jw_iconst (pc' := 3) (v := nI 0) jd_Branchwork_foldTree_2 (by decide +kernel) rfl ?_
  refine jw_istore (pc' := 5) (lc' := [(0, _), (2, _), (3, _), (5, _)]) jd_Branchwork_foldTree_3 (Nat.le_of_ble_eq_true rfl) ⟨rfl, rfl, rfl, rfl, trivial⟩ rfl ?_
  have loop : ∀ e i : Nat, i + e = 12 → jw_X mi_Branchwork_foldTree o k 0 0 5 [(2, .ref t), (3, .long (dgr d (fun _ => -1) i)), (5, .int (nI i))] [] μ hs := by
    intro e
    induction e with
    | zero =>
      intro i hi
      obtain rfl : i = 12 := by omega
      refine jw_iload (pc' := 7) jd_Branchwork_foldTree_5 rfl rfl ?_
      refine jw_bipush (pc' := 9) (v := nI 12) jd_Branchwork_foldTree_7 (by decide +kernel) rfl ?_
      refine jw_icmp_ge (tgt := 79) (pc' := 12) jd_Branchwork_foldTree_9 (by decide) rfl (fun c => ?_) (fun c => ?_)
      · refine jw_lload_n (pc' := 80) jd_Branchwork_foldTree_79 rfl rfl rfl ?_
        refine jw_lret hE jd_Branchwork_foldTree_80 rfl (by omega) (by omega) ?_
        exact ⟨rfl, rfl, rfl⟩
      · exact absurd (nI_le (by omega) (by omega)) c
    | succ e ih =>
      intro i hi
      have hC := h.2.2.2.1 i (by omega)
      have hC0 := hC.1
      refine jw_iload (pc' := 7) jd_Branchwork_foldTree_5 rfl rfl ?_
      refine jw_bipush (pc' := 9) (v := nI 12) jd_Branchwork_foldTree_7 (by decide +kernel) rfl ?_
      refine jw_icmp_ge (tgt := 79) (pc' := 12) jd_Branchwork_foldTree_9 (by decide) rfl (fun c => ?_) (fun c => ?_)
      · exact absurd ((nI_leI (a := 12) (by omega) (by omega)).mp c) (by omega)
      refine jw_aload_n (pc' := 13) jd_Branchwork_foldTree_12 rfl rfl rfl ?_
      refine jw_iload (pc' := 15) jd_Branchwork_foldTree_13 rfl rfl ?_
      refine jw_callV0 (pc' := 18) hR (bt_fileAt h (by omega)) jm_Tree_fileAt jq_532 jc_Tree jd_Branchwork_foldTree_15 (by assumption) rfl rfl (Nat.le_of_ble_eq_true rfl) (by omega) (by decide) (by omega) (by omega) rfl rfl ?_
      refine jw_astore (pc' := 20) (lc' := [(2, _), (3, _), (5, _), (6, _)]) jd_Branchwork_foldTree_18 (Nat.le_of_ble_eq_true rfl) ⟨rfl, rfl, rfl, rfl, trivial⟩ rfl ?_
      refine jw_lload_n (pc' := 21) jd_Branchwork_foldTree_20 rfl rfl rfl ?_
      refine jw_aload (pc' := 23) jd_Branchwork_foldTree_21 rfl rfl ?_
      refine jw_callV0 (pc' := 26) hR (bc_exists hC (Or.inl rfl)) jm_Content_exists jq_547 jc_Content jd_Branchwork_foldTree_23 (by assumption) rfl rfl (Nat.le_of_ble_eq_true rfl) (by omega) (by decide) (by omega) (by omega) rfl rfl ?_
      refine jw_if_eq (tgt := 37) (pc' := 29) jd_Branchwork_foldTree_26 (by decide) rfl (fun c1 => ?_) (fun c1 => ?_)
      rotate_left
      · exact absurd rfl c1
      refine jw_iconst (pc' := 38) (v := -1) jd_Branchwork_foldTree_37 (by decide +kernel) rfl ?_
      refine jw_callS0 (pc' := 41) hR (by_fold _ _) jm_Branchwork_fold jq_486 jd_Branchwork_foldTree_38 rfl rfl (Nat.le_of_ble_eq_true rfl) (by omega) (by decide) (by omega) (by omega) rfl rfl ?_
      refine jw_lstore_n (pc' := 42) (lc' := [(2, _), (3, _), (5, _), (6, _)]) jd_Branchwork_foldTree_41 rfl (Nat.le_of_ble_eq_true rfl) ⟨rfl, rfl, rfl, rfl, trivial⟩ rfl ?_
      refine jw_iconst (pc' := 43) (v := nI 0) jd_Branchwork_foldTree_42 (by decide +kernel) rfl ?_
      refine jw_istore (pc' := 45) (lc' := [(2, _), (3, _), (5, _), (6, _), (7, _)]) jd_Branchwork_foldTree_43 (Nat.le_of_ble_eq_true rfl) ⟨rfl, rfl, rfl, rfl, rfl, trivial⟩ rfl ?_
      refine jw_iload (pc' := 47) jd_Branchwork_foldTree_45 rfl rfl ?_
      refine jw_aload (pc' := 49) jd_Branchwork_foldTree_47 rfl rfl ?_
      refine jw_callV0 (pc' := 52) hR (bc_length hC) jm_Content_length jq_548 jc_Content jd_Branchwork_foldTree_49 (by assumption) rfl rfl (Nat.le_of_ble_eq_true rfl) (by omega) (by decide) (by omega) (by omega) rfl rfl ?_
      refine jw_icmp_ge (tgt := 73) (pc' := 55) jd_Branchwork_foldTree_52 (by decide) rfl (fun c2 => ?_) (fun c2 => ?_)
      rotate_left
      · exact absurd (show (nI 0 : Int32) ≤ nI 0 from by decide) c2
      refine jw_sub (lc' := [(2, _), (3, _), (5, _)]) ⟨rfl, rfl, rfl, trivial⟩ ?_
      refine jw_iinc (pc' := 76) (lc' := [(2, _), (3, _), (5, _)]) jd_Branchwork_foldTree_73 rfl (nI_1 _) (Nat.le_of_ble_eq_true rfl) ⟨rfl, rfl, rfl, trivial⟩ rfl ?_
      refine jw_goto (tgt := 5) jd_Branchwork_foldTree_76 (by decide) ?_
      exact ih (i + 1) (by omega)
  exact jw_sub (lc' := [(2, _), (3, _), (5, _)]) ⟨rfl, rfl, rfl, trivial⟩ (loop 12 0 (by omega))
theorem by_meanLines (h : bw_New o μ b) : jw_Spec mi_Branchwork_meanLines 4 0 0 o [.ref b] μ hs (fun v μ' s' => v = some (.double FP.dconst0) ∧ s' = hs ∧ jw_Fr μ μ' b 984) := by
  refine jw_spec (by decide +kernel) (Nat.le_of_ble_eq_true rfl) rfl (fun k hR hE => ?_)
  obtain ⟨h0, -, hH, -⟩ := h
  have hH0 := hH.1
  have hF : jw_Fr μ μ b 984 := jw_Fr.rf
  refine jw_aload_n (pc' := 1) jd_Branchwork_meanLines_0 rfl rfl rfl ?_
  refine jw_get (pc' := 4) (kf := 1) jc_Branchwork (by decide) jq_284 jd_Branchwork_meanLines_1 (by assumption) rfl rfl ?_
  refine jw_aload_n (pc' := 5) jd_Branchwork_meanLines_4 rfl rfl rfl ?_
  refine jw_get (pc' := 8) (kf := 1) jc_Branchwork (by decide) jq_284 jd_Branchwork_meanLines_5 (by assumption) rfl rfl ?_
  refine jw_callV0 (pc' := 11) hR (bs_kept hH) jm_History_kept jq_322 jc_History jd_Branchwork_meanLines_8 (by assumption) rfl rfl (Nat.le_of_ble_eq_true rfl) (by omega) (by decide) (by omega) (by omega) rfl rfl ?_
  refine jw_callV (pc' := 14) hR (bs_countContents0 hH) jm_History_countContents jq_373 jc_History jd_Branchwork_meanLines_11 (by assumption) rfl rfl (Nat.le_of_ble_eq_true rfl) (by omega) (by decide) (by omega) (by omega) rfl (fun v μ9 s9 q9 hle => ?_)
  obtain ⟨rfl, rfl, hH1, f9⟩ := q9
  have hF := hF.trans f9 (by omega) (by omega)
  refine jw_istore_n (pc' := 15) (lc' := [(0, _), (1, _)]) jd_Branchwork_meanLines_14 rfl (Nat.le_of_ble_eq_true rfl) ⟨rfl, rfl, trivial⟩ rfl ?_
  refine jw_iload_n (pc' := 16) jd_Branchwork_meanLines_15 rfl rfl rfl ?_
  refine jw_if_gt (tgt := 21) (pc' := 19) jd_Branchwork_meanLines_16 (by decide) rfl (fun c => ?_) (fun c => ?_)
  · exact absurd c (by decide)
  refine jw_dconst0 (pc' := 20) jd_Branchwork_meanLines_19 rfl ?_
  refine jw_dret hE jd_Branchwork_meanLines_20 rfl (by omega) (by omega) ?_
  exact ⟨rfl, rfl, hF⟩
theorem by_many1 (h : bw_New o μ b) {j : Nat} (hj : j ≤ 5) : jw_Spec mi_Branchwork_many 7 1 6 o [.ref b, .int (nI j)] μ hs (fun v μ' s' => v = some (.int (mv_many j)) ∧ s' = hs ∧ bw_New o μ' b ∧ jw_Fr μ μ' (b + 64) 1) := by
  refine jw_simp (jw_noX (jw_imp (by_many0 h (nI j)) (fun _ _ _ q => q) (fun E μ' s' q => (show False from ?_))) (fun _ _ _ q => q)) (fun v μ' s' q => ?_)
  · rw [kx_small_ok (by omega) hj] at q
    exact absurd q.2.1 (by decide)
  · obtain ⟨⟨i, hi, e, rfl⟩, q⟩ := q
    rw [(nI_eq (by omega) (by omega)).mp e]
    exact ⟨rfl, q⟩
theorem by_now1 (h : bw_New o μ b) {j : Nat} (hj : j ≤ 2) : jw_Spec mi_Branchwork_now 7 1 6 o [.ref b, .int (nI j)] μ hs (fun v μ' s' => v = some (.int (mv_now j)) ∧ s' = hs ∧ μ' = μ) := by
  refine jw_simp (jw_noX (jw_imp (by_now0 h (nI j)) (fun _ _ _ q => q) (fun E μ' s' q => (show False from ?_))) (fun _ _ _ q => q)) (fun v μ' s' q => ?_)
  · rw [kx_small_ok (by omega) hj] at q
    exact absurd q.2.1 (by decide)
  · obtain ⟨⟨i, hi, e, rfl⟩, q⟩ := q
    rw [(nI_eq (by omega) (by omega)).mp e]
    exact ⟨rfl, q⟩
theorem by_at1 (h : bw_New o μ b) : jw_Spec mi_Branchwork_at 7 1 6 o [.ref b, .int (nI 0)] μ hs (fun v μ' s' => v = some (.int (-1)) ∧ s' = hs ∧ μ' = μ) := by
  refine jw_simp (jw_noX (jw_imp (by_at0 h (nI 0)) (fun _ _ _ q => q) (fun E μ' s' q => (show False from ?_))) (fun _ _ _ q => q)) (fun v μ' s' q => q.2)
  exact absurd q.2.1 (by decide)
theorem by_status1 (h : bw_New o μ b) {p : Nat} (hp : p < 12) : jw_Spec mi_Branchwork_status 7 1 6 o [.ref b, .int (nI p)] μ hs (fun v μ' s' => v = some (.int (nI 0)) ∧ s' = hs ∧ μ' = μ) := by
  refine jw_simp (jw_noX (jw_imp (by_status0 h (nI p)) (fun _ _ _ q => q) (fun E μ' s' q => (show False from ?_))) (fun _ _ _ q => q)) (fun v μ' s' q => ⟨q.1, q.2.2.2, q.2.2.1⟩)
  have e : kx_path (nI p) = 0 := by
    unfold kx_path
    rw [if_neg (fun z => z ⟨nI_pos (by omega), nI_lt (by omega) (by omega)⟩)]
  rw [e] at q
  exact absurd q.2.1 (by decide)
theorem by_holds0 (h : bw_New o μ b) (x : Int32) : jw_Ro mi_History_holds 2 o [.ref (b + 29), .int x] μ hs (some (.int 0)) := by
  refine jw_ro (by decide +kernel) (Nat.le_of_ble_eq_true rfl) rfl (fun k hR hE => ?_)
  have hH0 := h.2.2.1.1
  refine jw_iload_n (pc' := 1) jd_History_holds_0 rfl rfl rfl ?_
  refine jw_aload_n (pc' := 2) jd_History_holds_1 rfl rfl rfl ?_
  refine jw_get (pc' := 5) (kf := 9) jc_History (by decide) jq_142 jd_History_holds_2 (by assumption) rfl rfl ?_
  refine jw_callS0 (pc' := 8) hR (bs_isIn0 x) jm_History_isIn jq_340 jd_History_holds_5 rfl rfl (Nat.le_of_ble_eq_true rfl) (by omega) (by decide) (by omega) (by omega) rfl rfl ?_
  exact jw_zret hE jd_History_holds_8 rfl (by decide) (by omega) (by omega) ⟨rfl, rfl, rfl⟩
theorem by_digest (h : bw_New o μ b) : jw_Spec mi_Branchwork_digest 8 22 132 o [.ref b] μ hs (fun v μ' s' => v = some (.long dg_new) ∧ s' = hs ∧ jw_Fr μ μ' b 984) := by
  refine jw_spec (by decide +kernel) (Nat.le_of_ble_eq_true rfl) rfl (fun k hR hE => ?_)
  obtain ⟨μ0, hμ0⟩ : ∃ z, z = μ := ⟨_, rfl⟩
  have hF : jw_Fr μ0 μ b 984 := by rw [hμ0]; exact jw_Fr.rf
  refine jw_ldc2 (pc' := 3) jd_Branchwork_digest_0 jq_394 rfl ?_
  refine jw_lstore_n (pc' := 4) (lc' := [(0, _), (1, _)]) jd_Branchwork_digest_3 rfl (Nat.le_of_ble_eq_true rfl) ⟨rfl, rfl, trivial⟩ rfl ?_
  refine jw_iconst (pc' := 5) (v := nI 0) jd_Branchwork_digest_4 (by decide +kernel) rfl ?_
  refine jw_istore_n (pc' := 6) (lc' := [(0, _), (1, _), (3, _)]) jd_Branchwork_digest_5 rfl (Nat.le_of_ble_eq_true rfl) ⟨rfl, rfl, rfl, trivial⟩ rfl ?_
  have loop5 : ∀ (μ : jw_Mem) (d : Int64), bw_New o μ b → jw_Fr μ0 μ b 984 → dgf d 0 = dg_new → jw_X mi_Branchwork_digest o k 22 132 143 [(0, .ref b), (1, .long d), (3, .int (nI 0))] [] μ hs := by
    intro μ d hN hF hd
    have h0 := hN.1
    have hK := hN.2.2.2.2.1
    have hK0 := hK.1
    refine jw_iload_n (pc' := 144) jd_Branchwork_digest_143 rfl rfl rfl ?_
    refine jw_aload_n (pc' := 145) jd_Branchwork_digest_144 rfl rfl rfl ?_
    refine jw_get (pc' := 148) (kf := 3) jc_Branchwork (by decide) jq_286 jd_Branchwork_digest_145 (by assumption) rfl rfl ?_
    refine jw_callV0 (pc' := 151) hR (by_howMany hK) jm_Conflicts_howMany jq_413 jc_Conflicts jd_Branchwork_digest_148 (by assumption) rfl rfl (Nat.le_of_ble_eq_true rfl) (by omega) (by decide) (by omega) (by omega) rfl rfl ?_
    refine jw_icmp_ge (tgt := 184) (pc' := 154) jd_Branchwork_digest_151 (by decide) rfl (fun c => ?_) (fun c => ?_)
    rotate_left
    · exact absurd (by decide) c
    refine jw_lload_n (pc' := 185) jd_Branchwork_digest_184 rfl rfl rfl ?_
    refine jw_aload_n (pc' := 186) jd_Branchwork_digest_185 rfl rfl rfl ?_
    refine jw_callV (pc' := 189) hR (bs_garbage hN) jm_Branchwork_garbage jq_318 jc_Branchwork jd_Branchwork_digest_186 (by assumption) rfl rfl (Nat.le_of_ble_eq_true rfl) (by omega) (by decide) (by omega) (by omega) rfl (fun v μ9 s9 q9 hle => ?_)
    obtain ⟨rfl, rfl, hN1, f9⟩ := q9
    refine jw_callS0 (pc' := 192) hR (by_fold d 0) jm_Branchwork_fold jq_486 jd_Branchwork_digest_189 rfl rfl (Nat.le_of_ble_eq_true rfl) (by omega) (by decide) (by omega) (by omega) rfl rfl ?_
    refine jw_lret hE jd_Branchwork_digest_192 rfl (by omega) (by omega) ?_
    rw [hd]
    exact ⟨rfl, rfl, hμ0 ▸ (hF.trans f9 (by omega) (by omega))⟩
  have loop4 : ∀ e i : Nat, i + e = 30 → ∀ (μ : jw_Mem) (d : Int64), bw_New o μ b → jw_Fr μ0 μ b 984 → dgf d 0 = dg_new → jw_X mi_Branchwork_digest o k 22 132 111 [(0, .ref b), (1, .long d), (3, .int (nI i))] [] μ hs := by
    intro e
    induction e with
    | zero =>
      intro i hi μ d hN hF hd
      refine jw_iload_n (pc' := 112) jd_Branchwork_digest_111 rfl rfl rfl ?_
      refine jw_bipush (pc' := 114) (v := nI 30) jd_Branchwork_digest_112 (by decide +kernel) rfl ?_
      refine jw_icmp_ge (tgt := 141) (pc' := 117) jd_Branchwork_digest_114 (by decide) rfl (fun c => ?_) (fun c => ?_)
      · refine jw_iconst (pc' := 142) (v := nI 0) jd_Branchwork_digest_141 (by decide +kernel) rfl ?_
        refine jw_istore_n (pc' := 143) (lc' := [(0, _), (1, _), (3, _)]) jd_Branchwork_digest_142 rfl (Nat.le_of_ble_eq_true rfl) ⟨rfl, rfl, rfl, trivial⟩ rfl ?_
        exact loop5 μ d hN hF hd
      · exact absurd (nI_le (by omega) (by omega)) c
    | succ e ih =>
      intro i hi μ d hN hF hd
      have h0 := hN.1
      have hH0 := hN.2.2.1.1
      refine jw_iload_n (pc' := 112) jd_Branchwork_digest_111 rfl rfl rfl ?_
      refine jw_bipush (pc' := 114) (v := nI 30) jd_Branchwork_digest_112 (by decide +kernel) rfl ?_
      refine jw_icmp_ge (tgt := 141) (pc' := 117) jd_Branchwork_digest_114 (by decide) rfl (fun c => ?_) (fun c => ?_)
      · exact absurd ((nI_leI (a := 30) (by omega) (by omega)).mp c) (by omega)
      refine jw_aload_n (pc' := 118) jd_Branchwork_digest_117 rfl rfl rfl ?_
      refine jw_get (pc' := 121) (kf := 1) jc_Branchwork (by decide) jq_284 jd_Branchwork_digest_118 (by assumption) rfl rfl ?_
      refine jw_iload_n (pc' := 122) jd_Branchwork_digest_121 rfl rfl rfl ?_
      refine jw_callV0 (pc' := 125) hR (by_holds0 hN (nI i)) jm_History_holds jq_550 jc_History jd_Branchwork_digest_122 (by assumption) rfl rfl (Nat.le_of_ble_eq_true rfl) (by omega) (by decide) (by omega) (by omega) rfl rfl ?_
      refine jw_if_eq (tgt := 135) (pc' := 128) jd_Branchwork_digest_125 (by decide) rfl (fun c1 => ?_) (fun c1 => ?_)
      rotate_left
      · exact absurd rfl c1
      refine jw_iinc (pc' := 138) (lc' := [(0, _), (1, _), (3, _)]) jd_Branchwork_digest_135 rfl (nI_1 _) (Nat.le_of_ble_eq_true rfl) ⟨rfl, rfl, rfl, trivial⟩ rfl ?_
      refine jw_goto (tgt := 111) jd_Branchwork_digest_138 (by decide) ?_
      exact ih (i + 1) (by omega) μ d hN hF hd
  have loop3 : ∀ e i : Nat, i + e = 12 → ∀ (μ : jw_Mem) (d d1 : Int64), bw_New o μ b → jw_Fr μ0 μ b 984 → d = dgr d1 (fun _ => 0) i → dgf (dgr (dgr d1 (fun _ => 0) 12) (fun _ => -1) 12) 0 = dg_new → jw_X mi_Branchwork_digest o k (10 + i) (60 + 6 * i) 78 [(0, .ref b), (1, .long d), (3, .int (nI i))] [] μ hs := by
    intro e
    induction e with
    | zero =>
      intro i hi μ d d1 hN hF hd hd2
      obtain rfl : i = 12 := by omega
      have h0 := hN.1
      have hT := hN.2.1
      refine jw_iload_n (pc' := 79) jd_Branchwork_digest_78 rfl rfl rfl ?_
      refine jw_bipush (pc' := 81) (v := nI 12) jd_Branchwork_digest_79 (by decide +kernel) rfl ?_
      refine jw_icmp_ge (tgt := 100) (pc' := 84) jd_Branchwork_digest_81 (by decide) rfl (fun c => ?_) (fun c => ?_)
      · refine jw_lload_n (pc' := 101) jd_Branchwork_digest_100 rfl rfl rfl ?_
        refine jw_aload_n (pc' := 102) jd_Branchwork_digest_101 rfl rfl rfl ?_
        refine jw_get (pc' := 105) (kf := 0) jc_Branchwork (by decide) jq_283 jd_Branchwork_digest_102 (by assumption) rfl rfl ?_
        refine jw_callS0 (pc' := 108) hR (by_foldTree hT d) jm_Branchwork_foldTree jq_544 jd_Branchwork_digest_105 rfl rfl (Nat.le_of_ble_eq_true rfl) (by omega) (by decide) (by omega) (by omega) rfl rfl ?_
        refine jw_lstore_n (pc' := 109) (lc' := [(0, _), (1, _), (3, _)]) jd_Branchwork_digest_108 rfl (Nat.le_of_ble_eq_true rfl) ⟨rfl, rfl, rfl, trivial⟩ rfl ?_
        refine jw_iconst (pc' := 110) (v := nI 0) jd_Branchwork_digest_109 (by decide +kernel) rfl ?_
        refine jw_istore_n (pc' := 111) (lc' := [(0, _), (1, _), (3, _)]) jd_Branchwork_digest_110 rfl (Nat.le_of_ble_eq_true rfl) ⟨rfl, rfl, rfl, trivial⟩ rfl ?_
        rw [← hd] at hd2
        exact loop4 30 0 (by omega) μ _ hN hF hd2
      · exact absurd (nI_le (by omega) (by omega)) c
    | succ e ih =>
      intro i hi μ d d1 hN hF hd hd2
      have h0 := hN.1
      refine jw_iload_n (pc' := 79) jd_Branchwork_digest_78 rfl rfl rfl ?_
      refine jw_bipush (pc' := 81) (v := nI 12) jd_Branchwork_digest_79 (by decide +kernel) rfl ?_
      refine jw_icmp_ge (tgt := 100) (pc' := 84) jd_Branchwork_digest_81 (by decide) rfl (fun c => ?_) (fun c => ?_)
      · exact absurd ((nI_leI (a := 12) (by omega) (by omega)).mp c) (by omega)
      refine jw_lload_n (pc' := 85) jd_Branchwork_digest_84 rfl rfl rfl ?_
      refine jw_aload_n (pc' := 86) jd_Branchwork_digest_85 rfl rfl rfl ?_
      refine jw_iload_n (pc' := 87) jd_Branchwork_digest_86 rfl rfl rfl ?_
      refine jw_callV (pc' := 90) hR (by_status1 hN (by omega)) jm_Branchwork_status jq_523 jc_Branchwork jd_Branchwork_digest_87 (by assumption) rfl rfl (Nat.le_of_ble_eq_true rfl) (by omega) (by decide) (by omega) (by omega) rfl (fun v μ9 s9 q9 hle => ?_)
      obtain ⟨rfl, rfl, rfl⟩ := q9
      refine jw_callS0 (pc' := 93) hR (by_fold d (nI 0)) jm_Branchwork_fold jq_486 jd_Branchwork_digest_90 rfl rfl (Nat.le_of_ble_eq_true rfl) (by omega) (by decide) (by omega) (by omega) rfl rfl ?_
      refine jw_lstore_n (pc' := 94) (lc' := [(0, _), (1, _), (3, _)]) jd_Branchwork_digest_93 rfl (Nat.le_of_ble_eq_true rfl) ⟨rfl, rfl, rfl, trivial⟩ rfl ?_
      refine jw_iinc (pc' := 97) (lc' := [(0, _), (1, _), (3, _)]) jd_Branchwork_digest_94 rfl (nI_1 _) (Nat.le_of_ble_eq_true rfl) ⟨rfl, rfl, rfl, trivial⟩ rfl ?_
      refine jw_goto (tgt := 78) jd_Branchwork_digest_97 (by decide) ?_
      refine jw_cnt (kc' := 10 + (i + 1)) (ks' := 60 + 6 * (i + 1)) (by omega) (by omega) ?_
      exact ih (i + 1) (by omega) _ _ d1 hN hF (by rw [hd]; rfl) hd2
  have loop2 : ∀ e i : Nat, i + e = 3 → ∀ (μ : jw_Mem) (d d1 : Int64), bw_New o μ b → jw_Fr μ0 μ b 984 → d = dgr d1 mv_now i → dgf (dgr (dgr (dgr (dgr d1 mv_now 3) (fun _ => -1) 1) (fun _ => 0) 12) (fun _ => -1) 12) 0 = dg_new → jw_X mi_Branchwork_digest o k (6 + i) (36 + 6 * i) 29 [(0, .ref b), (1, .long d), (3, .int (nI i))] [] μ hs := by
    intro e
    induction e with
    | zero =>
      intro i hi μ d d1 hN hF hd hd2
      obtain rfl : i = 3 := by omega
      have h0 := hN.1
      refine jw_iload_n (pc' := 30) jd_Branchwork_digest_29 rfl rfl rfl ?_
      refine jw_iconst (pc' := 31) (v := nI 2) jd_Branchwork_digest_30 (by decide +kernel) rfl ?_
      refine jw_icmp_gt (tgt := 50) (pc' := 34) jd_Branchwork_digest_31 (by decide) rfl (fun c => ?_) (fun c => ?_)
      rotate_left
      · exact absurd (by decide) c
      refine jw_iconst (pc' := 51) (v := nI 0) jd_Branchwork_digest_50 (by decide +kernel) rfl ?_
      refine jw_istore_n (pc' := 52) (lc' := [(0, _), (1, _), (3, _)]) jd_Branchwork_digest_51 rfl (Nat.le_of_ble_eq_true rfl) ⟨rfl, rfl, rfl, trivial⟩ rfl ?_
      refine jw_iload_n (pc' := 53) jd_Branchwork_digest_52 rfl rfl rfl ?_
      refine jw_aload_n (pc' := 54) jd_Branchwork_digest_53 rfl rfl rfl ?_
      refine jw_get (pc' := 57) (kf := 7) jc_Branchwork (by decide) jq_290 jd_Branchwork_digest_54 (by assumption) rfl rfl ?_
      refine jw_icmp_ge (tgt := 76) (pc' := 60) jd_Branchwork_digest_57 (by decide) rfl (fun c1 => ?_) (fun c1 => ?_)
      · exact absurd c1 (by decide)
      refine jw_lload_n (pc' := 61) jd_Branchwork_digest_60 rfl rfl rfl ?_
      refine jw_aload_n (pc' := 62) jd_Branchwork_digest_61 rfl rfl rfl ?_
      refine jw_iload_n (pc' := 63) jd_Branchwork_digest_62 rfl rfl rfl ?_
      refine jw_callV (pc' := 66) hR (by_at1 hN) jm_Branchwork_at jq_499 jc_Branchwork jd_Branchwork_digest_63 (by assumption) rfl rfl (Nat.le_of_ble_eq_true rfl) (by omega) (by decide) (by omega) (by omega) rfl (fun v μ9 s9 q9 hle => ?_)
      obtain ⟨rfl, rfl, rfl⟩ := q9
      refine jw_callS0 (pc' := 69) hR (by_fold d (-1)) jm_Branchwork_fold jq_486 jd_Branchwork_digest_66 rfl rfl (Nat.le_of_ble_eq_true rfl) (by omega) (by decide) (by omega) (by omega) rfl rfl ?_
      refine jw_lstore_n (pc' := 70) (lc' := [(0, _), (1, _), (3, _)]) jd_Branchwork_digest_69 rfl (Nat.le_of_ble_eq_true rfl) ⟨rfl, rfl, rfl, trivial⟩ rfl ?_
      refine jw_iinc (pc' := 73) (lc' := [(0, _), (1, _), (3, _)]) jd_Branchwork_digest_70 rfl (nI_1 _) (Nat.le_of_ble_eq_true rfl) ⟨rfl, rfl, rfl, trivial⟩ rfl ?_
      refine jw_goto (tgt := 52) jd_Branchwork_digest_73 (by decide) ?_
      refine jw_iload_n (pc' := 53) jd_Branchwork_digest_52 rfl rfl rfl ?_
      refine jw_aload_n (pc' := 54) jd_Branchwork_digest_53 rfl rfl rfl ?_
      refine jw_get (pc' := 57) (kf := 7) jc_Branchwork (by decide) jq_290 jd_Branchwork_digest_54 (by assumption) rfl rfl ?_
      refine jw_icmp_ge (tgt := 76) (pc' := 60) jd_Branchwork_digest_57 (by decide) rfl (fun c2 => ?_) (fun c2 => ?_)
      rotate_left
      · exact absurd (by decide) c2
      refine jw_iconst (pc' := 77) (v := nI 0) jd_Branchwork_digest_76 (by decide +kernel) rfl ?_
      refine jw_istore_n (pc' := 78) (lc' := [(0, _), (1, _), (3, _)]) jd_Branchwork_digest_77 rfl (Nat.le_of_ble_eq_true rfl) ⟨rfl, rfl, rfl, trivial⟩ rfl ?_
      refine loop3 12 0 (by omega) _ _ (dgf d (-1)) hN hF rfl ?_
      rw [← hd] at hd2
      exact hd2
    | succ e ih =>
      intro i hi μ d d1 hN hF hd hd2
      have h0 := hN.1
      refine jw_iload_n (pc' := 30) jd_Branchwork_digest_29 rfl rfl rfl ?_
      refine jw_iconst (pc' := 31) (v := nI 2) jd_Branchwork_digest_30 (by decide +kernel) rfl ?_
      refine jw_icmp_gt (tgt := 50) (pc' := 34) jd_Branchwork_digest_31 (by decide) rfl (fun c => ?_) (fun c => ?_)
      · exact absurd ((nI_ltI (a := 2) (by omega) (by omega)).mp c) (by omega)
      refine jw_lload_n (pc' := 35) jd_Branchwork_digest_34 rfl rfl rfl ?_
      refine jw_aload_n (pc' := 36) jd_Branchwork_digest_35 rfl rfl rfl ?_
      refine jw_iload_n (pc' := 37) jd_Branchwork_digest_36 rfl rfl rfl ?_
      refine jw_callV (pc' := 40) hR (by_now1 hN (by omega)) jm_Branchwork_now jq_490 jc_Branchwork jd_Branchwork_digest_37 (by assumption) rfl rfl (Nat.le_of_ble_eq_true rfl) (by omega) (by decide) (by omega) (by omega) rfl (fun v μ9 s9 q9 hle => ?_)
      obtain ⟨rfl, rfl, rfl⟩ := q9
      refine jw_callS0 (pc' := 43) hR (by_fold d (mv_now i)) jm_Branchwork_fold jq_486 jd_Branchwork_digest_40 rfl rfl (Nat.le_of_ble_eq_true rfl) (by omega) (by decide) (by omega) (by omega) rfl rfl ?_
      refine jw_lstore_n (pc' := 44) (lc' := [(0, _), (1, _), (3, _)]) jd_Branchwork_digest_43 rfl (Nat.le_of_ble_eq_true rfl) ⟨rfl, rfl, rfl, trivial⟩ rfl ?_
      refine jw_iinc (pc' := 47) (lc' := [(0, _), (1, _), (3, _)]) jd_Branchwork_digest_44 rfl (nI_1 _) (Nat.le_of_ble_eq_true rfl) ⟨rfl, rfl, rfl, trivial⟩ rfl ?_
      refine jw_goto (tgt := 29) jd_Branchwork_digest_47 (by decide) ?_
      refine jw_cnt (kc' := 6 + (i + 1)) (ks' := 36 + 6 * (i + 1)) (by omega) (by omega) ?_
      exact ih (i + 1) (by omega) _ _ d1 hN hF (by rw [hd]; rfl) hd2
  have loop1 : ∀ e i : Nat, i + e = 6 → ∀ (μ : jw_Mem) (d : Int64), bw_New o μ b → jw_Fr μ0 μ b 984 → d = dgr 58087 mv_many i → jw_X mi_Branchwork_digest o k (0 + i) (0 + 6 * i) 6 [(0, .ref b), (1, .long d), (3, .int (nI i))] [] μ hs := by
    intro e
    induction e with
    | zero =>
      intro i hi μ d hN hF hd
      obtain rfl : i = 6 := by omega
      have h0 := hN.1
      refine jw_iload_n (pc' := 7) jd_Branchwork_digest_6 rfl rfl rfl ?_
      refine jw_iconst (pc' := 8) (v := nI 5) jd_Branchwork_digest_7 (by decide +kernel) rfl ?_
      refine jw_icmp_gt (tgt := 27) (pc' := 11) jd_Branchwork_digest_8 (by decide) rfl (fun c => ?_) (fun c => ?_)
      rotate_left
      · exact absurd (by decide) c
      refine jw_iconst (pc' := 28) (v := nI 0) jd_Branchwork_digest_27 (by decide +kernel) rfl ?_
      refine jw_istore_n (pc' := 29) (lc' := [(0, _), (1, _), (3, _)]) jd_Branchwork_digest_28 rfl (Nat.le_of_ble_eq_true rfl) ⟨rfl, rfl, rfl, trivial⟩ rfl ?_
      exact loop2 3 0 (by omega) μ d d hN hF rfl (by rw [hd]; rfl)
    | succ e ih =>
      intro i hi μ d hN hF hd
      have h0 := hN.1
      refine jw_iload_n (pc' := 7) jd_Branchwork_digest_6 rfl rfl rfl ?_
      refine jw_iconst (pc' := 8) (v := nI 5) jd_Branchwork_digest_7 (by decide +kernel) rfl ?_
      refine jw_icmp_gt (tgt := 27) (pc' := 11) jd_Branchwork_digest_8 (by decide) rfl (fun c => ?_) (fun c => ?_)
      · exact absurd ((nI_ltI (a := 5) (by omega) (by omega)).mp c) (by omega)
      refine jw_lload_n (pc' := 12) jd_Branchwork_digest_11 rfl rfl rfl ?_
      refine jw_aload_n (pc' := 13) jd_Branchwork_digest_12 rfl rfl rfl ?_
      refine jw_iload_n (pc' := 14) jd_Branchwork_digest_13 rfl rfl rfl ?_
      refine jw_callV (pc' := 17) hR (by_many1 hN (by omega)) jm_Branchwork_many jq_395 jc_Branchwork jd_Branchwork_digest_14 (by assumption) rfl rfl (Nat.le_of_ble_eq_true rfl) (by omega) (by decide) (by omega) (by omega) rfl (fun v μ9 s9 q9 hle => ?_)
      obtain ⟨rfl, rfl, hN1, f9⟩ := q9
      refine jw_callS0 (pc' := 20) hR (by_fold d (mv_many i)) jm_Branchwork_fold jq_486 jd_Branchwork_digest_17 rfl rfl (Nat.le_of_ble_eq_true rfl) (by omega) (by decide) (by omega) (by omega) rfl rfl ?_
      refine jw_lstore_n (pc' := 21) (lc' := [(0, _), (1, _), (3, _)]) jd_Branchwork_digest_20 rfl (Nat.le_of_ble_eq_true rfl) ⟨rfl, rfl, rfl, trivial⟩ rfl ?_
      refine jw_iinc (pc' := 24) (lc' := [(0, _), (1, _), (3, _)]) jd_Branchwork_digest_21 rfl (nI_1 _) (Nat.le_of_ble_eq_true rfl) ⟨rfl, rfl, rfl, trivial⟩ rfl ?_
      refine jw_goto (tgt := 6) jd_Branchwork_digest_24 (by decide) ?_
      refine jw_cnt (kc' := 0 + (i + 1)) (ks' := 0 + 6 * (i + 1)) (by omega) (by omega) ?_
      exact ih (i + 1) (by omega) _ _ hN1 (hF.trans f9 (by omega) (by omega)) (by rw [hd]; rfl)
  exact loop1 6 0 (by omega) μ _ h hF rfl
end
