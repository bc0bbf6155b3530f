section
variable {o : jw_O} {μ : jw_Mem} {hs r : Nat}
theorem br_digest {th : Int32} (h : bq_At o μ r th) (hr : r + 7 ≤ hs) : jw_Spec mi_BranchworkModel_digest 7 80 1000 o [.ref r] μ hs (fun v μ' s' => v = some (.long dg_new) ∧ (∃ c', μ' r = some (.inr (9, .int (nI 0) :: c'))) ∧ ∀ q, (q < r ∨ r + 7 ≤ q) → q < hs → μ' q = μ q) := by
  refine jw_spec (by decide +kernel) (Nat.le_of_ble_eq_true rfl) rfl (fun k hR hE => ?_)
  obtain ⟨μ0, hμ0⟩ : ∃ z, z = μ := ⟨_, rfl⟩
  have h0 := h.1
  have segE : ∀ (μ : jw_Mem) (d : Int64) (s kc ks : Nat), bq_At o μ r (nI 0) → hs ≤ s → kc ≤ 66 → ks ≤ 800 → (∀ q, (q < r ∨ r + 7 ≤ q) → q < hs → μ q = μ0 q) → dgf d 0 = dg_new → jw_X mi_BranchworkModel_digest o k kc ks 237 [(0, .ref r), (1, .long d), (3, .int (nI 0))] [] μ s := by
    intro μ d s kc ks h hs2 hk1 hk2 hF hd
    have h0 := h.1
    have hC := h.2.2.2.2.1
    obtain ⟨c1, hC0⟩ := hC.raw
    refine jw_iload_n (pc' := 238) jd_BranchworkModel_digest_237 rfl rfl rfl ?_
    refine jw_aload_n (pc' := 239) jd_BranchworkModel_digest_238 rfl rfl rfl ?_
    refine jw_get (pc' := 242) (kf := 6) jc_BranchworkModel (by decide) jq_1136 jd_BranchworkModel_digest_239 (by assumption) rfl rfl ?_
    refine jw_callV0 (pc' := 245) hR (bl_size hC) jm_ArrayList_size jq_1255 jc_ArrayList jd_BranchworkModel_digest_242 (by assumption) rfl rfl (Nat.le_of_ble_eq_true rfl) (by omega) (by decide) (by omega) (by omega) rfl rfl ?_
    refine jw_icmp_ge (tgt := 290) (pc' := 248) jd_BranchworkModel_digest_245 (by decide) rfl (fun c => ?_) (fun c => ?_)
    rotate_left
    · exact absurd (by decide) c
    refine jw_lload_n (pc' := 291) jd_BranchworkModel_digest_290 rfl rfl rfl ?_
    refine jw_aload_n (pc' := 292) jd_BranchworkModel_digest_291 rfl rfl rfl ?_
    refine jw_callV (pc' := 295) hR (br_garbageNow h (by omega)) jm_BranchworkModel_garbageNow jq_1466 jc_BranchworkModel jd_BranchworkModel_digest_292 (by assumption) rfl rfl (Nat.le_of_ble_eq_true rfl) (by omega) (by decide) (by omega) (by omega) rfl (fun v μ9 s9 q9 hle => ?_)
    obtain ⟨rfl, rfl, f9⟩ := q9
    have h := h.nw f9 (by omega)
    refine jw_i2l (pc' := 296) jd_BranchworkModel_digest_295 rfl rfl ?_
    refine jw_callS0 (pc' := 299) hR (br_add _ _) jm_BranchworkModel_add jq_1593 jd_BranchworkModel_digest_296 rfl rfl (Nat.le_of_ble_eq_true rfl) (by omega) (by decide) (by omega) (by omega) rfl rfl ?_
    refine jw_lret hE jd_BranchworkModel_digest_299 rfl (by omega) (by omega) ?_
    refine ⟨?_, ⟨_, h.1⟩, fun q z z2 => (f9 q (by omega)).trans ((hF q z z2).trans (by rw [hμ0]))⟩
    rw [← hd]
    rfl
  have segD : ∀ (μ : jw_Mem) (d : Int64) (s kc ks : Nat), bq_At o μ r (nI 0) → hs ≤ s → kc ≤ 66 → ks ≤ 800 → (∀ q, (q < r ∨ r + 7 ≤ q) → q < hs → μ q = μ0 q) → dgf d 0 = dg_new → jw_X mi_BranchworkModel_digest o k kc ks 133 [(0, .ref r), (1, .long d), (3, .int (nI 0))] [] μ s := by
    intro μ d s kc ks h hs2 hk1 hk2 hF hd
    have h0 := h.1
    have hA := h.2.1
    obtain ⟨c1, hA0⟩ := hA.raw
    refine jw_iload_n (pc' := 134) jd_BranchworkModel_digest_133 rfl rfl rfl ?_
    refine jw_aload_n (pc' := 135) jd_BranchworkModel_digest_134 rfl rfl rfl ?_
    refine jw_get (pc' := 138) (kf := 1) jc_BranchworkModel (by decide) jq_1131 jd_BranchworkModel_digest_135 (by assumption) rfl rfl ?_
    refine jw_callV0 (pc' := 141) hR (bl_size hA) jm_ArrayList_size jq_1255 jc_ArrayList jd_BranchworkModel_digest_138 (by assumption) rfl rfl (Nat.le_of_ble_eq_true rfl) (by omega) (by decide) (by omega) (by omega) rfl rfl ?_
    refine jw_icmp_ge (tgt := 235) (pc' := 144) jd_BranchworkModel_digest_141 (by decide) rfl (fun c => ?_) (fun c => ?_)
    rotate_left
    · exact absurd (by decide) c
    refine jw_iconst (pc' := 236) (v := nI 0) jd_BranchworkModel_digest_235 (by decide +kernel) rfl ?_
    refine jw_istore_n (pc' := 237) (lc' := [(0, _), (1, _), (3, _)]) jd_BranchworkModel_digest_236 rfl (Nat.le_of_ble_eq_true rfl) ⟨rfl, rfl, rfl, trivial⟩ rfl ?_
    exact segE μ d s kc ks h hs2 hk1 hk2 hF hd
  have loop3 : ∀ e i : Nat, i + e = 12 → ∀ (μ : jw_Mem) (d d1 : Int64) (s : Nat), bq_At o μ r (nI 0) → hs ≤ s → (∀ q, (q < r ∨ r + 7 ≤ q) → q < hs → μ q = μ0 q) → d = dgr d1 (fun _ => 0) i → dgf (dgr (dgr d1 (fun _ => 0) 12) (fun _ => -1) 12) 0 = dg_new → jw_X mi_BranchworkModel_digest o k (42 + 2 * i) (630 + 13 * i) 99 [(0, .ref r), (1, .long d), (3, .int (nI i))] [] μ s := by
    intro e
    induction e with
    | zero =>
      intro i hi μ d d1 s h hs2 hF hd hd2
      obtain rfl : i = 12 := by omega
      have h0 := h.1
      have hT := h.2.2.2.1
      have hT0 := hT.1
      refine jw_iload_n (pc' := 100) jd_BranchworkModel_digest_99 rfl rfl rfl ?_
      refine jw_bipush (pc' := 102) (v := nI 12) jd_BranchworkModel_digest_100 (by decide +kernel) rfl ?_
      refine jw_icmp_ge (tgt := 122) (pc' := 105) jd_BranchworkModel_digest_102 (by decide) rfl (fun c => ?_) (fun c => ?_)
      · refine jw_lload_n (pc' := 123) jd_BranchworkModel_digest_122 rfl rfl rfl ?_
        refine jw_aload_n (pc' := 124) jd_BranchworkModel_digest_123 rfl rfl rfl ?_
        refine jw_get (pc' := 127) (kf := 4) jc_BranchworkModel (by decide) jq_1134 jd_BranchworkModel_digest_124 (by assumption) rfl rfl ?_
        refine jw_callS0 (pc' := 130) hR (br_digestTree hT d) jm_BranchworkModel_digestTree jq_1597 jd_BranchworkModel_digest_127 rfl rfl (Nat.le_of_ble_eq_true rfl) (by omega) (by decide) (by omega) (by omega) rfl rfl ?_
        refine jw_lstore_n (pc' := 131) (lc' := [(0, _), (1, _), (3, _)]) jd_BranchworkModel_digest_130 rfl (Nat.le_of_ble_eq_true rfl) ⟨rfl, rfl, rfl, trivial⟩ rfl ?_
        refine jw_iconst (pc' := 132) (v := nI 0) jd_BranchworkModel_digest_131 (by decide +kernel) rfl ?_
        refine jw_istore_n (pc' := 133) (lc' := [(0, _), (1, _), (3, _)]) jd_BranchworkModel_digest_132 rfl (Nat.le_of_ble_eq_true rfl) ⟨rfl, rfl, rfl, trivial⟩ rfl ?_
        rw [← hd] at hd2
        exact segD μ _ s _ _ h hs2 (by omega) (by omega) hF hd2
      · exact absurd (nI_le (by omega) (by omega)) c
    | succ e ih =>
      intro i hi μ d d1 s h hs2 hF hd hd2
      have h0 := h.1
      refine jw_iload_n (pc' := 100) jd_BranchworkModel_digest_99 rfl rfl rfl ?_
      refine jw_bipush (pc' := 102) (v := nI 12) jd_BranchworkModel_digest_100 (by decide +kernel) rfl ?_
      refine jw_icmp_ge (tgt := 122) (pc' := 105) jd_BranchworkModel_digest_102 (by decide) rfl (fun c => ?_) (fun c => ?_)
      · exact absurd ((nI_leI (a := 12) (by omega) (by omega)).mp c) (by omega)
      refine jw_lload_n (pc' := 106) jd_BranchworkModel_digest_105 rfl rfl rfl ?_
      refine jw_aload_n (pc' := 107) jd_BranchworkModel_digest_106 rfl rfl rfl ?_
      refine jw_iload_n (pc' := 108) jd_BranchworkModel_digest_107 rfl rfl rfl ?_
      refine jw_callV (pc' := 111) hR (br_statusOf h (by omega) (by omega)) jm_BranchworkModel_statusOf jq_1221 jc_BranchworkModel jd_BranchworkModel_digest_108 (by assumption) rfl rfl (Nat.le_of_ble_eq_true rfl) (by omega) (by decide) (by omega) (by omega) rfl (fun v μ9 s9 q9 hle => ?_)
      obtain ⟨rfl, rfl, f9⟩ := q9
      have h := h.nw f9 (by omega)
      refine jw_i2l (pc' := 112) jd_BranchworkModel_digest_111 rfl rfl ?_
      refine jw_callS0 (pc' := 115) hR (br_add _ _) jm_BranchworkModel_add jq_1593 jd_BranchworkModel_digest_112 rfl rfl (Nat.le_of_ble_eq_true rfl) (by omega) (by decide) (by omega) (by omega) rfl rfl ?_
      refine jw_lstore_n (pc' := 116) (lc' := [(0, _), (1, _), (3, _)]) jd_BranchworkModel_digest_115 rfl (Nat.le_of_ble_eq_true rfl) ⟨rfl, rfl, rfl, trivial⟩ rfl ?_
      refine jw_iinc (pc' := 119) (lc' := [(0, _), (1, _), (3, _)]) jd_BranchworkModel_digest_116 rfl (nI_1 _) (Nat.le_of_ble_eq_true rfl) ⟨rfl, rfl, rfl, trivial⟩ rfl ?_
      refine jw_goto (tgt := 99) jd_BranchworkModel_digest_119 (by decide) ?_
      refine jw_cnt (kc' := 42 + 2 * (i + 1)) (ks' := 630 + 13 * (i + 1)) (by omega) (by omega) ?_
      exact ih (i + 1) (by omega) _ _ d1 _ h (by omega) (fun q z z2 => (f9 q (by omega)).trans (hF q z z2)) (by rw [hd]; rfl) hd2
  have loop2 : ∀ e i : Nat, i + e = 3 → ∀ (μ : jw_Mem) (d d1 : Int64) (s : Nat), bq_At o μ r (nI 0) → hs ≤ s → (∀ q, (q < r ∨ r + 7 ≤ q) → q < hs → μ q = μ0 q) → d = dgr d1 mv_now i → dgf (dgr (dgr (dgr (dgr d1 mv_now 3) (fun _ => -1) 1) (fun _ => 0) 12) (fun _ => -1) 12) 0 = dg_new → jw_X mi_BranchworkModel_digest o k 42 630 36 [(0, .ref r), (1, .long d), (3, .int (nI i))] [] μ s := by
    intro e
    induction e with
    | zero =>
      intro i hi μ d d1 s h hs2 hF hd hd2
      obtain rfl : i = 3 := by omega
      have h0 := h.1
      have hB := h.2.2.1
      obtain ⟨c1, hB0⟩ := hB.raw
      obtain ⟨f, h6, hf⟩ := h.2.2.2.2.2
      refine jw_iload_n (pc' := 37) jd_BranchworkModel_digest_36 rfl rfl rfl ?_
      refine jw_iconst (pc' := 38) (v := nI 3) jd_BranchworkModel_digest_37 (by decide +kernel) rfl ?_
      refine jw_icmp_ge (tgt := 58) (pc' := 41) jd_BranchworkModel_digest_38 (by decide) rfl (fun c => ?_) (fun c => ?_)
      rotate_left
      · exact absurd (by decide) c
      refine jw_iconst (pc' := 59) (v := nI 0) jd_BranchworkModel_digest_58 (by decide +kernel) rfl ?_
      refine jw_istore_n (pc' := 60) (lc' := [(0, _), (1, _), (3, _)]) jd_BranchworkModel_digest_59 rfl (Nat.le_of_ble_eq_true rfl) ⟨rfl, rfl, rfl, trivial⟩ rfl ?_
      refine jw_iload_n (pc' := 61) jd_BranchworkModel_digest_60 rfl rfl rfl ?_
      refine jw_aload_n (pc' := 62) jd_BranchworkModel_digest_61 rfl rfl rfl ?_
      refine jw_get (pc' := 65) (kf := 2) jc_BranchworkModel (by decide) jq_1132 jd_BranchworkModel_digest_62 (by assumption) rfl rfl ?_
      refine jw_callV0 (pc' := 68) hR (bl_size hB) jm_ArrayList_size jq_1255 jc_ArrayList jd_BranchworkModel_digest_65 (by assumption) rfl rfl (Nat.le_of_ble_eq_true rfl) (by omega) (by decide) (by omega) (by omega) rfl rfl ?_
      refine jw_icmp_ge (tgt := 97) (pc' := 71) jd_BranchworkModel_digest_68 (by decide) rfl (fun c1 => ?_) (fun c1 => ?_)
      · exact absurd c1 (by decide)
      refine jw_lload_n (pc' := 72) jd_BranchworkModel_digest_71 rfl rfl rfl ?_
      refine jw_aload_n (pc' := 73) jd_BranchworkModel_digest_72 rfl rfl rfl ?_
      refine jw_get (pc' := 76) (kf := 2) jc_BranchworkModel (by decide) jq_1132 jd_BranchworkModel_digest_73 (by assumption) rfl rfl ?_
      refine jw_iload_n (pc' := 77) jd_BranchworkModel_digest_76 rfl rfl rfl ?_
      refine jw_callV0 (pc' := 80) hR (bl_get (i := 0) hB h6 (by omega) (by omega) (by omega) hf) jm_ArrayList_get jq_1233 jc_ArrayList jd_BranchworkModel_digest_77 (by assumption) rfl rfl (Nat.le_of_ble_eq_true rfl) (by omega) (by decide) (by omega) (by omega) rfl rfl ?_
      refine jw_castN (pc' := 83) jd_BranchworkModel_digest_80 rfl ?_
      refine jw_callS0 (pc' := 86) hR (br_number) jm_BranchworkModel_number jq_1507 jd_BranchworkModel_digest_83 rfl rfl (Nat.le_of_ble_eq_true rfl) (by omega) (by decide) (by omega) (by omega) rfl rfl ?_
      refine jw_i2l (pc' := 87) jd_BranchworkModel_digest_86 rfl rfl ?_
      refine jw_callS0 (pc' := 90) hR (br_add _ _) jm_BranchworkModel_add jq_1593 jd_BranchworkModel_digest_87 rfl rfl (Nat.le_of_ble_eq_true rfl) (by omega) (by decide) (by omega) (by omega) rfl rfl ?_
      refine jw_lstore_n (pc' := 91) (lc' := [(0, _), (1, _), (3, _)]) jd_BranchworkModel_digest_90 rfl (Nat.le_of_ble_eq_true rfl) ⟨rfl, rfl, rfl, trivial⟩ rfl ?_
      refine jw_iinc (pc' := 94) (lc' := [(0, _), (1, _), (3, _)]) jd_BranchworkModel_digest_91 rfl rfl (Nat.le_of_ble_eq_true rfl) ⟨rfl, rfl, rfl, trivial⟩ rfl ?_
      refine jw_goto (tgt := 60) jd_BranchworkModel_digest_94 (by decide) ?_
      refine jw_iload_n (pc' := 61) jd_BranchworkModel_digest_60 rfl rfl rfl ?_
      refine jw_aload_n (pc' := 62) jd_BranchworkModel_digest_61 rfl rfl rfl ?_
      refine jw_get (pc' := 65) (kf := 2) jc_BranchworkModel (by decide) jq_1132 jd_BranchworkModel_digest_62 (by assumption) rfl rfl ?_
      refine jw_callV0 (pc' := 68) hR (bl_size hB) jm_ArrayList_size jq_1255 jc_ArrayList jd_BranchworkModel_digest_65 (by assumption) rfl rfl (Nat.le_of_ble_eq_true rfl) (by omega) (by decide) (by omega) (by omega) rfl rfl ?_
      refine jw_icmp_ge (tgt := 97) (pc' := 71) jd_BranchworkModel_digest_68 (by decide) rfl (fun c2 => ?_) (fun c2 => ?_)
      rotate_left
      · exact absurd (by decide) c2
      refine jw_iconst (pc' := 98) (v := nI 0) jd_BranchworkModel_digest_97 (by decide +kernel) rfl ?_
      refine jw_istore_n (pc' := 99) (lc' := [(0, _), (1, _), (3, _)]) jd_BranchworkModel_digest_98 rfl (Nat.le_of_ble_eq_true rfl) ⟨rfl, rfl, rfl, trivial⟩ rfl ?_
      refine jw_cnt (kc' := 42 + 2 * 0) (ks' := 630 + 13 * 0) (by omega) (by omega) ?_
      rw [← hd] at hd2
      exact loop3 12 0 (by omega) μ _ _ s h hs2 hF rfl hd2
    | succ e ih =>
      intro i hi μ d d1 s h hs2 hF hd hd2
      have h0 := h.1
      refine jw_iload_n (pc' := 37) jd_BranchworkModel_digest_36 rfl rfl rfl ?_
      refine jw_iconst (pc' := 38) (v := nI 3) jd_BranchworkModel_digest_37 (by decide +kernel) rfl ?_
      refine jw_icmp_ge (tgt := 58) (pc' := 41) jd_BranchworkModel_digest_38 (by decide) rfl (fun c => ?_) (fun c => ?_)
      · exact absurd ((nI_leI (a := 3) (by omega) (by omega)).mp c) (by omega)
      refine jw_lload_n (pc' := 42) jd_BranchworkModel_digest_41 rfl rfl rfl ?_
      refine jw_aload_n (pc' := 43) jd_BranchworkModel_digest_42 rfl rfl rfl ?_
      refine jw_iload_n (pc' := 44) jd_BranchworkModel_digest_43 rfl rfl rfl ?_
      refine jw_callV0 (pc' := 47) hR (br_nowOf h (by omega)) jm_BranchworkModel_nowOf jq_1503 jc_BranchworkModel jd_BranchworkModel_digest_44 (by assumption) rfl rfl (Nat.le_of_ble_eq_true rfl) (by omega) (by decide) (by omega) (by omega) rfl rfl ?_
      refine jw_i2l (pc' := 48) jd_BranchworkModel_digest_47 rfl rfl ?_
      refine jw_callS0 (pc' := 51) hR (br_add _ _) jm_BranchworkModel_add jq_1593 jd_BranchworkModel_digest_48 rfl rfl (Nat.le_of_ble_eq_true rfl) (by omega) (by decide) (by omega) (by omega) rfl rfl ?_
      refine jw_lstore_n (pc' := 52) (lc' := [(0, _), (1, _), (3, _)]) jd_BranchworkModel_digest_51 rfl (Nat.le_of_ble_eq_true rfl) ⟨rfl, rfl, rfl, trivial⟩ rfl ?_
      refine jw_iinc (pc' := 55) (lc' := [(0, _), (1, _), (3, _)]) jd_BranchworkModel_digest_52 rfl (nI_1 _) (Nat.le_of_ble_eq_true rfl) ⟨rfl, rfl, rfl, trivial⟩ rfl ?_
      refine jw_goto (tgt := 36) jd_BranchworkModel_digest_55 (by decide) ?_
      exact ih (i + 1) (by omega) _ _ d1 _ h hs2 hF (by rw [hd]; rfl) hd2
  have loop1 : ∀ e i : Nat, i + e = 6 → ∀ (μ : jw_Mem) (d : Int64) (s : Nat), bq_At o μ r (nI 0) → hs ≤ s → (∀ q, (q < r ∨ r + 7 ≤ q) → q < hs → μ q = μ0 q) → d = dgr 58087 mv_many i → jw_X mi_BranchworkModel_digest o k (7 * i) (105 * i) 11 [(0, .ref r), (1, .long d), (3, .int (nI i))] [] μ s := by
    intro e
    induction e with
    | zero =>
      intro i hi μ d s h hs2 hF hd
      obtain rfl : i = 6 := by omega
      have h0 := h.1
      refine jw_iload_n (pc' := 12) jd_BranchworkModel_digest_11 rfl rfl rfl ?_
      refine jw_bipush (pc' := 14) (v := nI 6) jd_BranchworkModel_digest_12 (by decide +kernel) rfl ?_
      refine jw_icmp_ge (tgt := 34) (pc' := 17) jd_BranchworkModel_digest_14 (by decide) rfl (fun c => ?_) (fun c => ?_)
      rotate_left
      · exact absurd (nI_le (by omega) (by omega)) c
      refine jw_iconst (pc' := 35) (v := nI 0) jd_BranchworkModel_digest_34 (by decide +kernel) rfl ?_
      refine jw_istore_n (pc' := 36) (lc' := [(0, _), (1, _), (3, _)]) jd_BranchworkModel_digest_35 rfl (Nat.le_of_ble_eq_true rfl) ⟨rfl, rfl, rfl, trivial⟩ rfl ?_
      exact loop2 3 0 (by omega) μ d d s h hs2 hF rfl (by rw [hd]; rfl)
    | succ e ih =>
      intro i hi μ d s h hs2 hF hd
      have h0 := h.1
      refine jw_iload_n (pc' := 12) jd_BranchworkModel_digest_11 rfl rfl rfl ?_
      refine jw_bipush (pc' := 14) (v := nI 6) jd_BranchworkModel_digest_12 (by decide +kernel) rfl ?_
      refine jw_icmp_ge (tgt := 34) (pc' := 17) jd_BranchworkModel_digest_14 (by decide) rfl (fun c => ?_) (fun c => ?_)
      · exact absurd ((nI_leI (a := 6) (by omega) (by omega)).mp c) (by omega)
      refine jw_lload_n (pc' := 18) jd_BranchworkModel_digest_17 rfl rfl rfl ?_
      refine jw_aload_n (pc' := 19) jd_BranchworkModel_digest_18 rfl rfl rfl ?_
      refine jw_iload_n (pc' := 20) jd_BranchworkModel_digest_19 rfl rfl rfl ?_
      refine jw_callV (pc' := 23) hR (br_count h (by omega) (by omega)) jm_BranchworkModel_count jq_1495 jc_BranchworkModel jd_BranchworkModel_digest_20 (by assumption) rfl rfl (Nat.le_of_ble_eq_true rfl) (by omega) (by decide) (by omega) (by omega) rfl (fun v μ9 s9 q9 hle => ?_)
      obtain ⟨rfl, rfl, f9⟩ := q9
      have h := h.nw f9 (by omega)
      refine jw_i2l (pc' := 24) jd_BranchworkModel_digest_23 rfl rfl ?_
      refine jw_callS0 (pc' := 27) hR (br_add _ _) jm_BranchworkModel_add jq_1593 jd_BranchworkModel_digest_24 rfl rfl (Nat.le_of_ble_eq_true rfl) (by omega) (by decide) (by omega) (by omega) rfl rfl ?_
      refine jw_lstore_n (pc' := 28) (lc' := [(0, _), (1, _), (3, _)]) jd_BranchworkModel_digest_27 rfl (Nat.le_of_ble_eq_true rfl) ⟨rfl, rfl, rfl, trivial⟩ rfl ?_
      refine jw_iinc (pc' := 31) (lc' := [(0, _), (1, _), (3, _)]) jd_BranchworkModel_digest_28 rfl (nI_1 _) (Nat.le_of_ble_eq_true rfl) ⟨rfl, rfl, rfl, trivial⟩ rfl ?_
      refine jw_goto (tgt := 11) jd_BranchworkModel_digest_31 (by decide) ?_
      refine jw_cnt (kc' := 7 * (i + 1)) (ks' := 105 * (i + 1)) (by omega) (by omega) ?_
      exact ih (i + 1) (by omega) _ _ _ h (by omega) (fun q z z2 => (f9 q (by omega)).trans (hF q z z2)) (by rw [hd]; rfl)
  refine jw_aload_n (pc' := 1) jd_BranchworkModel_digest_0 rfl rfl rfl ?_
  refine jw_iconst (pc' := 2) (v := nI 0) jd_BranchworkModel_digest_1 (by decide +kernel) rfl ?_
  refine jw_put (pc' := 5) (kf := 0) (ty := .int) (fs' := [_, _, _, _, _, _, _]) jc_BranchworkModel (by decide) jq_1130 jd_BranchworkModel_digest_2 rfl (by decide +kernel) (by assumption) rfl rfl rfl (Nat.le_of_ble_eq_true rfl) rfl (fun μ h0 f9 => ?_)
  refine jw_ldc2 (pc' := 8) jd_BranchworkModel_digest_5 jq_1592 rfl ?_
  refine jw_lstore_n (pc' := 9) (lc' := [(0, _), (1, _)]) jd_BranchworkModel_digest_8 rfl (Nat.le_of_ble_eq_true rfl) ⟨rfl, rfl, trivial⟩ rfl ?_
  refine jw_iconst (pc' := 10) (v := nI 0) jd_BranchworkModel_digest_9 (by decide +kernel) rfl ?_
  refine jw_istore_n (pc' := 11) (lc' := [(0, _), (1, _), (3, _)]) jd_BranchworkModel_digest_10 rfl (Nat.le_of_ble_eq_true rfl) ⟨rfl, rfl, rfl, trivial⟩ rfl ?_
  have h := h.th (jw_Fr.o f9) h0
  refine jw_sub (lc' := [(0, _), (1, _), (3, _)]) ⟨rfl, rfl, rfl, trivial⟩ ?_
  refine jw_cnt (kc' := 7 * 0) (ks' := 105 * 0) (by omega) (by omega) ?_
  exact loop1 6 0 (by omega) μ _ hs h (by omega) (fun q z z2 => (f9 q (by omega)).trans (by rw [hμ0])) rfl
end
