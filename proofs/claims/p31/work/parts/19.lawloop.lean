/-! the law: its first half -/
def SJ (n : Nat) (tp : Nat → Int) (br cu : Nat) : Prop := n = 0 ∧ cu = 0 ∧ tp 0 = -1 ∧ br = 1 ∨ 0 < n ∧ ∀ b, b < br → 0 ≤ tp b
def SL (o : jw_O) (σ : zS) (n br : Nat) : Prop := ∃ w Ts f g t c kp l tp cu mg, GS o σ w Ts f g t c n kp l tp br cu mg ∧ GV f g n kp tp br cu mg ∧ l.1 = 0 ∧ (∀ j, kp.testBit j = decide (j < n)) ∧ br ≤ 3 ∧ SJ n tp br cu
theorem z_or_bit {kp n : Nat} (hk : ∀ j, kp.testBit j = decide (j < n)) (j : Nat) : (kp ||| 2 ^ n).testBit j = decide (j < n + 1) := by
  rw [Nat.testBit_or, Nat.testBit_two_pow, hk]
  by_cases q : j < n
  · simp [q, show j < n + 1 by omega]
  · by_cases q2 : n = j
    · simp [q2]
    · simp [q, q2, show ¬ j < n + 1 by omega]
section
variable {o : jw_O} {σ : zS} {w : zT} {Ts : Nat → zT} {f g t c : Nat → Int} {n kp : Nat} {l : zK} {tp : Nat → Int} {br cu : Nat} {mg : Int}
variable {k : jw_K} {kc ks hs : Nat} {nm : String}
theorem GV.com (hv : GV f g n kp tp br cu mg) (hn : n < 30) (hk : ∀ j, kp.testBit j = decide (j < n)) : GV (fun i => if i = n then tp cu else f i) (fun i => if i = n then mg else g i) (n + 1) (kp ||| 2 ^ n) (fun i => if i = cu then (n : Int) else tp i) br cu (-1) := by
  obtain ⟨v1, v2, v3, v4, v5, v6, v7, v8, v9⟩ := hv
  refine ⟨fun i hi => ?_, fun j hj => ?_, v3, v4, v5, fun i => ?_, by omega, by omega, by omega⟩
  · dsimp only
    by_cases e : i = n
    · have := v6 cu
      rw [if_pos e, if_pos e]; omega
    · have := v1 i (by omega)
      rw [if_neg e, if_neg e]; exact this
  · rw [z_or_bit hk, decide_eq_true_eq] at hj; exact hj
  · dsimp only
    have := v6 i
    split <;> omega
theorem GV.bra (hv : GV f g n kp tp br cu mg) (h5 : br < 5) : GV f g n kp (fun i => if i = br then tp cu else tp i) (br + 1) cu mg := by
  obtain ⟨v1, v2, v3, v4, v5, v6, v7, v8, v9⟩ := hv
  refine ⟨v1, v2, by omega, by omega, by omega, fun i => ?_, v7, v8, v9⟩
  dsimp only
  have := v6 i
  have := v6 cu
  split <;> omega
theorem law_536 (hR : jw_Rm k 10 604185 7289070) (hkc : kc ≤ 604185) (hks : ks ≤ 7289070) (h : GS o σ w Ts f g t c n kp l tp br cu mg) (hv : GV f g n kp tp br cu mg) (hk : ∀ j, kp.testBit j = decide (j < n)) (h3 : br ≤ 3) (hJ : SJ n tp br cu) (hcf : cfP (w, l)) (i : Nat)
    (p611 : ∀ s, SL o s n br → jw_X (mi_lawN nm) o k kc ks 611 [(0, .ref o.2.2.2.2), (1, .ref (zb o)), (2, .int (iI br)), (3, .int (iI n)), (4, .int (iI i))] [] (mm o s) hs) : jw_X (mi_lawN nm) o k kc ks 536 [(0, .ref o.2.2.2.2), (1, .ref (zb o)), (2, .int (iI br)), (3, .int (iI n)), (4, .int (iI i))] [] (mm o σ) hs := by
  have l24 := h.2.2.2.2.1.2.1
  have p594 : ∀ (m : Nat) (s : zS) (l2 : zK), l2.1 = m → GS o s w Ts f g t c n kp l2 tp br cu mg → jw_X (mi_lawN nm) o k kc ks 594 [(0, .ref o.2.2.2.2), (1, .ref (zb o)), (2, .int (iI br)), (3, .int (iI n)), (4, .int (iI i))] [] (mm o s) hs := by
    intro m
    induction m with
    | zero =>
      intro s l2 hl h
      have e3 : mnF w t c kp l2 br 3 = l2.1 := rfl
      refine jw_aload_n (pc' := 595) jd_law_594 rfl rfl rfl ?_
      refine zx_iconst (pc' := 596) (n := 3) jd_law_595 rfl ?_
      refine zy_callV (pc' := 599) hR hkc hks (f_many h 3 (by omega)) jm_Branchwork_many jq_727 jc_Branchwork jd_law_596 (mc_Branchwork _) rfl rfl (Nat.le_of_ble_eq_true rfl) (by omega) (by decide) rfl (fun v9 s1 q9 => ?_)
      obtain ⟨rfl, E1⟩ := q9
      rw [e3]
      refine zx_if_le (tgt := 611) (pc' := 602) (by first | exact rg_iv _ _ _ | omega) jd_law_599 (by decide) rfl (fun q => ?_) (fun q => ?_)
      rotate_left
      · exfalso; omega
      exact p611 s1 ⟨w, Ts, f, g, t, c, kp, l2, tp, cu, mg, h.e E1, hv, hl, hk, h3, hJ⟩
    | succ m ih =>
      intro s l2 hl h
      have e3 : mnF w t c kp l2 br 3 = l2.1 := rfl
      have l24 := h.2.2.2.2.1.2.1
      refine jw_aload_n (pc' := 595) jd_law_594 rfl rfl rfl ?_
      refine zx_iconst (pc' := 596) (n := 3) jd_law_595 rfl ?_
      refine zy_callV (pc' := 599) hR hkc hks (f_many h 3 (by omega)) jm_Branchwork_many jq_727 jc_Branchwork jd_law_596 (mc_Branchwork _) rfl rfl (Nat.le_of_ble_eq_true rfl) (by omega) (by decide) rfl (fun v9 s1 q9 => ?_)
      obtain ⟨rfl, E1⟩ := q9
      rw [e3]
      refine zx_if_le (tgt := 611) (pc' := 602) (by first | exact rg_iv _ _ _ | omega) jd_law_599 (by decide) rfl (fun q => ?_) (fun q => ?_)
      · exfalso; omega
      refine jw_aload_n (pc' := 603) jd_law_602 rfl rfl rfl ?_
      refine zx_iconst (pc' := 604) (n := 0) jd_law_603 rfl ?_
      refine zy_callV (pc' := 607) hR hkc hks (f_settle (h.e E1) (by omega)) jm_Branchwork_settle jq_668 jc_Branchwork jd_law_604 (mc_Branchwork _) rfl rfl (Nat.le_of_ble_eq_true rfl) (by omega) (by decide) rfl (fun v9 s2 q9 => ?_)
      obtain ⟨⟨y, rfl⟩, l3, h3, e4⟩ := q9
      refine jw_pop (pc' := 608) jd_law_607 rfl rfl ?_
      refine jw_goto (tgt := 594) jd_law_608 (by decide) ?_
      exact ih s2 l3 (by omega) h3
  refine zx_iconst (pc' := 537) (n := 0) jd_law_536 rfl ?_
  refine jw_istore (pc' := 539) (lc' := [(0, _), (1, _), (2, _), (3, _), (4, _), (14, _)]) jd_law_537 (Nat.le_of_ble_eq_true rfl) ⟨rfl, rfl, rfl, rfl, rfl, rfl, trivial⟩ rfl ?_
  have loop : ∀ (d j : Nat) (s : zS), j + d = l.1 → zE o σ s → jw_X (mi_lawN nm) o k kc ks 539 [(0, .ref o.2.2.2.2), (1, .ref (zb o)), (2, .int (iI br)), (3, .int (iI n)), (4, .int (iI i)), (14, .int (iI j))] [] (mm o s) hs := by
    have e3 : mnF w t c kp l br 3 = l.1 := rfl
    intro d
    induction d with
    | zero =>
      intro j s hj E
      refine jw_iload (pc' := 541) jd_law_539 rfl rfl ?_
      refine jw_aload_n (pc' := 542) jd_law_541 rfl rfl rfl ?_
      refine zx_iconst (pc' := 543) (n := 3) jd_law_542 rfl ?_
      refine zy_callV (pc' := 546) hR hkc hks (f_many (h.e E) 3 (by omega)) jm_Branchwork_many jq_727 jc_Branchwork jd_law_543 (mc_Branchwork _) rfl rfl (Nat.le_of_ble_eq_true rfl) (by omega) (by decide) rfl (fun v9 s1 q9 => ?_)
      obtain ⟨rfl, E1⟩ := q9
      rw [e3]
      refine zx_icmp_ge (tgt := 594) (pc' := 549) (by first | exact rg_iv _ _ _ | omega) (by first | exact rg_iv _ _ _ | omega) jd_law_546 (by decide) rfl (fun q => ?_) (fun q => ?_)
      rotate_left
      · exfalso; omega
      refine jw_sub (lc' := [(0, _), (1, _), (2, _), (3, _), (4, _)]) ⟨rfl, rfl, rfl, rfl, rfl, trivial⟩ ?_
      exact p594 l.1 s1 l rfl (h.e (E.trans E1))
    | succ d jh =>
      intro j s hj E
      obtain ⟨c1, c2, p, c3, c4, c5⟩ := hcf j (by show j < l.1; omega)
      simp only at c1 c2 c4 c5
      have okw := (h.1.2 p c3).2.1.n
      have sz : 0 ≤ szF (w p) ∧ szF (w p) ≤ 10 := by unfold szF; rw [if_neg c5]; omega
      refine jw_iload (pc' := 541) jd_law_539 rfl rfl ?_
      refine jw_aload_n (pc' := 542) jd_law_541 rfl rfl rfl ?_
      refine zx_iconst (pc' := 543) (n := 3) jd_law_542 rfl ?_
      refine zy_callV (pc' := 546) hR hkc hks (f_many (h.e E) 3 (by omega)) jm_Branchwork_many jq_727 jc_Branchwork jd_law_543 (mc_Branchwork _) rfl rfl (Nat.le_of_ble_eq_true rfl) (by omega) (by decide) rfl (fun v9 s1 q9 => ?_)
      obtain ⟨rfl, E1⟩ := q9
      rw [e3]
      have E2 := E.trans E1
      refine zx_icmp_ge (tgt := 594) (pc' := 549) (by first | exact rg_iv _ _ _ | omega) (by first | exact rg_iv _ _ _ | omega) jd_law_546 (by decide) rfl (fun q => ?_) (fun q => ?_)
      · exfalso; omega
      refine jw_aload_n (pc' := 550) jd_law_549 rfl rfl rfl ?_
      refine jw_iload (pc' := 552) jd_law_550 rfl rfl ?_
      refine zx_iconst (pc' := 553) (n := 0) jd_law_552 rfl ?_
      refine zy_callV0 (pc' := 556) hR hkc hks ((f_confl (h.e E2) j (by omega)).1) jm_Branchwork_conflict jq_785 jc_Branchwork jd_law_553 (mc_Branchwork _) rfl rfl (Nat.le_of_ble_eq_true rfl) (by omega) (by decide) rfl rfl ?_
      refine zx_iconst (pc' := 557) (n := 1) jd_law_556 rfl ?_
      refine zx_icmp_lt (tgt := 586) (pc' := 560) (by first | exact rg_iv _ _ _ | omega) (by first | exact rg_iv _ _ _ | omega) jd_law_557 (by decide) rfl (fun q2 => ?_) (fun q2 => ?_)
      · exfalso; omega
      refine jw_aload_n (pc' := 561) jd_law_560 rfl rfl rfl ?_
      refine jw_iload (pc' := 563) jd_law_561 rfl rfl ?_
      refine zx_iconst (pc' := 564) (n := 0) jd_law_563 rfl ?_
      refine zy_callV0 (pc' := 567) hR hkc hks ((f_confl (h.e E2) j (by omega)).1) jm_Branchwork_conflict jq_785 jc_Branchwork jd_law_564 (mc_Branchwork _) rfl rfl (Nat.le_of_ble_eq_true rfl) (by omega) (by decide) rfl rfl ?_
      refine zx_iconst (pc' := 568) (n := 5) jd_law_567 rfl ?_
      refine zx_icmp_gt (tgt := 586) (pc' := 571) (by first | exact rg_iv _ _ _ | omega) (by first | exact rg_iv _ _ _ | omega) jd_law_568 (by decide) rfl (fun q3 => ?_) (fun q3 => ?_)
      · exfalso; omega
      refine jw_aload_n (pc' := 572) jd_law_571 rfl rfl rfl ?_
      refine zx_iconst (pc' := 573) (n := -1) jd_law_572 rfl ?_
      refine jw_aload_n (pc' := 574) jd_law_573 rfl rfl rfl ?_
      refine jw_iload (pc' := 576) jd_law_574 rfl rfl ?_
      refine zx_iconst (pc' := 577) (n := 1) jd_law_576 rfl ?_
      refine zy_callV0 (pc' := 580) hR hkc hks ((f_confl (h.e E2) j (by omega)).2) jm_Branchwork_conflict jq_785 jc_Branchwork jd_law_577 (mc_Branchwork _) rfl rfl (Nat.le_of_ble_eq_true rfl) (by omega) (by decide) rfl rfl ?_
      rw [c4]
      refine zy_callV0 (pc' := 583) hR hkc hks (f_sizeW (h.e E2) p c3) jm_Branchwork_size jq_776 jc_Branchwork jd_law_580 (mc_Branchwork _) rfl rfl (Nat.le_of_ble_eq_true rfl) (by omega) (by decide) rfl rfl ?_
      refine zx_if_ge (tgt := 588) (pc' := 586) (by first | exact rg_iv _ _ _ | omega) jd_law_583 (by decide) rfl (fun q4 => ?_) (fun q4 => ?_)
      rotate_left
      · exfalso; omega
      refine zx_iinc (pc' := 591) (lc' := [(0, _), (1, _), (2, _), (3, _), (4, _), (14, _)]) jd_law_588 rfl (Nat.le_of_ble_eq_true rfl) ⟨rfl, rfl, rfl, rfl, rfl, rfl, trivial⟩ rfl ?_
      refine jw_goto (tgt := 539) jd_law_591 (by decide) ?_
      exact jh (j + 1) s1 (by omega) E2
  exact loop l.1 0 σ (by omega) zE.rf
theorem law_332 (hR : jw_Rm k 10 604185 7289070) (hkc : kc ≤ 604185) (hks : ks ≤ 7289070) (h : GS o σ w Ts f g t c n kp l tp br cu mg) (hv : GV f g n kp tp br cu mg) (hl : l.1 = 0) (hk : ∀ j, kp.testBit j = decide (j < n)) (h3 : br ≤ 3) (hJ : SJ n tp br cu) (i : Nat) (x : Int32) (kd : Nat) (hkd : kd < 9)
    (p611 : ∀ s, SL o s n br → jw_X (mi_lawN nm) o k kc ks 611 [(0, .ref o.2.2.2.2), (1, .ref (zb o)), (2, .int (iI br)), (3, .int (iI n)), (4, .int (iI i))] [] (mm o s) hs) : jw_X (mi_lawN nm) o k kc ks 332 [(0, .ref o.2.2.2.2), (1, .ref (zb o)), (2, .int (iI br)), (3, .int (iI n)), (4, .int (iI i)), (5, .int x), (8, .int (iI kd))] [] (mm o σ) hs := by
  have PP := hv.1
  have hn := hv.2.2.2.2.2.2.2.2
  have v6 := hv.2.2.2.2.2.1
  have v7 := hv.2.2.2.2.2.2.1
  have v8 := hv.2.2.2.2.2.2.2.1
  have vcu := hv.2.2.2.2.1
  have kt : ∀ j, j < n → kp.testBit j = true := fun j hj => by rw [hk, decide_eq_true_eq]; exact hj
  have okT : ∀ x p, p < 12 → okV (trV Ts x p) := fun x p hp => ((h.tree x).2 p hp).2.1
  have rc := v6 cu
  have same : SL o σ n br := ⟨w, Ts, f, g, t, c, kp, l, tp, cu, mg, h, hv, hl, hk, h3, hJ⟩
  have out : jw_X (mi_lawN nm) o k kc ks 611 [(0, .ref o.2.2.2.2), (1, .ref (zb o)), (2, .int (iI br)), (3, .int (iI n)), (4, .int (iI i))] [] (mm o σ) hs := p611 σ same
  refine jw_iload (pc' := 334) jd_law_332 rfl rfl ?_
  refine zx_bipush (pc' := 336) (n := 8) jd_law_334 (by decide +kernel) rfl ?_
  refine zx_icmp_ne (tgt := 611) (pc' := 339) (by first | exact rg_iv _ _ _ | omega) (by first | exact rg_iv _ _ _ | omega) jd_law_336 (by decide) rfl (fun q => ?_) (fun q => ?_)
  · refine jw_sub (lc' := [(0, _), (1, _), (2, _), (3, _), (4, _)]) ⟨rfl, rfl, rfl, rfl, rfl, trivial⟩ ?_
    exact out
  refine jw_iload_n (pc' := 340) jd_law_339 rfl rfl rfl ?_
  refine zx_if_le (tgt := 611) (pc' := 343) (by first | exact rg_iv _ _ _ | omega) jd_law_340 (by decide) rfl (fun q2 => ?_) (fun q2 => ?_)
  · refine jw_sub (lc' := [(0, _), (1, _), (2, _), (3, _), (4, _)]) ⟨rfl, rfl, rfl, rfl, rfl, trivial⟩ ?_
    exact out
  have ec := eqT_01 w (trV Ts (tp cu))
  refine jw_aload_n (pc' := 344) jd_law_343 rfl rfl rfl ?_
  refine zy_callS0 (pc' := 347) hR hkc hks (q_clean h hv) jm_BranchworkLaw_isClean jq_883 jd_law_344 rfl rfl (Nat.le_of_ble_eq_true rfl) (by omega) (by decide) rfl rfl ?_
  refine zx_if_eq (tgt := 611) (pc' := 350) (by first | exact rg_iv _ _ _ | omega) jd_law_347 (by decide) rfl (fun q3 => ?_) (fun q3 => ?_)
  · refine jw_sub (lc' := [(0, _), (1, _), (2, _), (3, _), (4, _)]) ⟨rfl, rfl, rfl, rfl, rfl, trivial⟩ ?_
    exact out
  refine jw_aload_n (pc' := 351) jd_law_350 rfl rfl rfl ?_
  refine zx_iconst (pc' := 352) (n := 2) jd_law_351 rfl ?_
  refine zy_callV0 (pc' := 355) hR hkc hks (f_now h hv 2 (by omega)) jm_Branchwork_now jq_740 jc_Branchwork jd_law_352 (mc_Branchwork _) rfl rfl (Nat.le_of_ble_eq_true rfl) (by omega) (by decide) rfl rfl ?_
  rw [show nwF tp cu mg 2 = mg from rfl]
  refine zx_if_ge (tgt := 611) (pc' := 358) (by first | exact rg_iv _ _ _ | omega) jd_law_355 (by decide) rfl (fun q4 => ?_) (fun q4 => ?_)
  · refine jw_sub (lc' := [(0, _), (1, _), (2, _), (3, _), (4, _)]) ⟨rfl, rfl, rfl, rfl, rfl, trivial⟩ ?_
    exact out
  refine jw_aload_n (pc' := 359) jd_law_358 rfl rfl rfl ?_
  refine zx_iconst (pc' := 360) (n := 1) jd_law_359 rfl ?_
  refine zy_callV0 (pc' := 363) hR hkc hks (f_now h hv 1 (by omega)) jm_Branchwork_now jq_740 jc_Branchwork jd_law_360 (mc_Branchwork _) rfl rfl (Nat.le_of_ble_eq_true rfl) (by omega) (by decide) rfl rfl ?_
  rw [show nwF tp cu mg 1 = tp cu from rfl]
  refine zx_if_lt (tgt := 611) (pc' := 366) (by first | exact rg_iv _ _ _ | omega) jd_law_363 (by decide) rfl (fun q5 => ?_) (fun q5 => ?_)
  · refine jw_sub (lc' := [(0, _), (1, _), (2, _), (3, _), (4, _)]) ⟨rfl, rfl, rfl, rfl, rfl, trivial⟩ ?_
    exact out
  have hm : mg = -1 := by omega
  have hc1 : eqT w (trV Ts (tp cu)) = 1 := by omega
  have hpos : ∀ b, b < br → 0 ≤ tp b := by rcases hJ with z | z; omega; exact z.2
  obtain ⟨hd, hhd⟩ : ∃ m : Nat, tp cu = m := ⟨(tp cu).toNat, by omega⟩
  have hdn : hd < n := by omega
  refine jw_iload (pc' := 368) jd_law_366 rfl rfl ?_
  refine jw_iconst (pc' := 369) jd_law_368 (v := iI 4) rfl rfl ?_
  refine jw_ishr (pc' := 370) jd_law_369 rfl rfl ?_
  refine jw_iload_n (pc' := 371) jd_law_370 rfl rfl rfl ?_
  refine zy_callS (pc' := 374) hR hkc hks (q_below _ br (by omega)) jm_BranchworkLaw_below jq_872 jd_law_371 rfl rfl (Nat.le_of_ble_eq_true rfl) (by omega) (by decide) rfl (fun v9 s1 q9 => ?_)
  obtain ⟨⟨b, hb, rfl⟩, e1⟩ := q9
  rw [e1]
  have rb := v6 b
  have pb := hpos b hb
  obtain ⟨ot, hot⟩ : ∃ m : Nat, tp b = m := ⟨(tp b).toNat, by omega⟩
  have otn : ot < n := by omega
  have cr := ca_rng f g (tp cu) (tp b)
  refine jw_istore (pc' := 376) (lc' := [(0, _), (1, _), (2, _), (3, _), (4, _), (9, _)]) jd_law_374 (Nat.le_of_ble_eq_true rfl) ⟨rfl, rfl, rfl, rfl, rfl, rfl, trivial⟩ rfl ?_
  refine jw_aload_n (pc' := 377) jd_law_376 rfl rfl rfl ?_
  refine zx_iconst (pc' := 378) (n := 1) jd_law_377 rfl ?_
  refine zy_callV0 (pc' := 381) hR hkc hks (f_now h hv 1 (by omega)) jm_Branchwork_now jq_740 jc_Branchwork jd_law_378 (mc_Branchwork _) rfl rfl (Nat.le_of_ble_eq_true rfl) (by omega) (by decide) rfl rfl ?_
  rw [show nwF tp cu mg 1 = tp cu from rfl]
  refine jw_istore (pc' := 383) (lc' := [(0, _), (1, _), (2, _), (3, _), (4, _), (9, _), (10, _)]) jd_law_381 (Nat.le_of_ble_eq_true rfl) ⟨rfl, rfl, rfl, rfl, rfl, rfl, rfl, trivial⟩ rfl ?_
  refine jw_aload_n (pc' := 384) jd_law_383 rfl rfl rfl ?_
  refine jw_iload (pc' := 386) jd_law_384 rfl rfl ?_
  refine jw_aload_n (pc' := 387) jd_law_386 rfl rfl rfl ?_
  refine jw_iload (pc' := 389) jd_law_387 rfl rfl ?_
  refine zy_callV0 (pc' := 392) hR hkc hks (f_at h hv b hb) jm_Branchwork_at jq_745 jc_Branchwork jd_law_389 (mc_Branchwork _) rfl rfl (Nat.le_of_ble_eq_true rfl) (by omega) (by decide) rfl rfl ?_
  rw [hhd, hot]
  refine zy_callV (pc' := 395) hR hkc hks (f_conflictsOf h hd ot (by omega) (by omega) (kt hd hdn) (kt ot otn)) jm_Branchwork_conflictsOf jq_842 jc_Branchwork jd_law_392 (mc_Branchwork _) rfl rfl (Nat.le_of_ble_eq_true rfl) (by omega) (by decide) rfl (fun v9 s2 q9 => ?_)
  obtain ⟨rfl, f24, E2⟩ := q9
  have h2 := h.e E2
  refine jw_istore (pc' := 397) (lc' := [(0, _), (1, _), (2, _), (3, _), (4, _), (9, _), (10, _), (11, _)]) jd_law_395 (Nat.le_of_ble_eq_true rfl) ⟨rfl, rfl, rfl, rfl, rfl, rfl, rfl, rfl, trivial⟩ rfl ?_
  refine jw_aload_n (pc' := 398) jd_law_397 rfl rfl rfl ?_
  refine jw_iload (pc' := 400) jd_law_398 rfl rfl ?_
  refine jw_aload_n (pc' := 401) jd_law_400 rfl rfl rfl ?_
  refine jw_iload (pc' := 403) jd_law_401 rfl rfl ?_
  refine zy_callV0 (pc' := 406) hR hkc hks (f_at h2 hv b hb) jm_Branchwork_at jq_745 jc_Branchwork jd_law_403 (mc_Branchwork _) rfl rfl (Nat.le_of_ble_eq_true rfl) (by omega) (by decide) rfl rfl ?_
  rw [hot]
  refine zy_callV0 (pc' := 409) hR hkc hks (f_base h2 hd ot (by omega) (by omega) (kt hd hdn) (kt ot otn)) jm_Branchwork_base jq_792 jc_Branchwork jd_law_406 (mc_Branchwork _) rfl rfl (Nat.le_of_ble_eq_true rfl) (by omega) (by decide) rfl rfl ?_
  rw [← hhd, ← hot]
  have et1 : trV Ts (tp cu) = Ts hd := by rw [hhd]; exact trV_i Ts (by omega)
  have et2 : trV Ts (tp b) = Ts ot := by rw [hot]; exact trV_i Ts (by omega)
  rw [← et1, ← et2]
  rw [← hhd, ← hot, ← et1, ← et2] at f24
  refine jw_istore (pc' := 411) (lc' := [(0, _), (1, _), (2, _), (3, _), (4, _), (9, _), (10, _), (11, _), (12, _)]) jd_law_409 (Nat.le_of_ble_eq_true rfl) ⟨rfl, rfl, rfl, rfl, rfl, rfl, rfl, rfl, rfl, trivial⟩ rfl ?_
  refine jw_aload_n (pc' := 412) jd_law_411 rfl rfl rfl ?_
  refine jw_iload (pc' := 414) jd_law_412 rfl rfl ?_
  refine zy_callV (pc' := 417) hR hkc hks (f_merge h2 hv b hb (by omega) hc1 hm) jm_Branchwork_merge jq_512 jc_Branchwork jd_law_414 (mc_Branchwork _) rfl rfl (Nat.le_of_ble_eq_true rfl) (by omega) (by decide) rfl (fun v9 s3 q9 => ?_)
  have z := q9
  rcases z with ⟨z1, rfl, h4⟩ | ⟨z1, z2, rfl, h4⟩ | ⟨z1, z2, rfl, h4⟩
  · have p487 : jw_X (mi_lawN nm) o k kc ks 487 [(0, .ref o.2.2.2.2), (1, .ref (zb o)), (2, .int (iI br)), (3, .int (iI n)), (4, .int (iI i)), (9, .int (iI b)), (11, .int (iI ((mgF (trV Ts (caF f g (tp cu) (tp b))) (trV Ts (tp cu)) (trV Ts (tp b))).2.1 : Int))), (13, .int (iI (-1)))] [] (mm o s3) hs := by
      refine jw_iload (pc' := 489) jd_law_487 rfl rfl ?_
      refine zx_if_lt (tgt := 513) (pc' := 492) (by first | exact rg_iv _ _ _ | omega) jd_law_489 (by decide) rfl (fun r1 => ?_) (fun r1 => ?_)
      rotate_left
      · exfalso; omega
      refine jw_iload (pc' := 515) jd_law_513 rfl rfl ?_
      refine zx_bipush (pc' := 517) (n := -2) jd_law_515 (by decide +kernel) rfl ?_
      refine zx_icmp_ne (tgt := 536) (pc' := 520) (by first | exact rg_iv _ _ _ | omega) (by first | exact rg_iv _ _ _ | omega) jd_law_517 (by decide) rfl (fun r2 => ?_) (fun r2 => ?_)
      rotate_left
      · exfalso; omega
      refine jw_sub (lc' := [(0, _), (1, _), (2, _), (3, _), (4, _)]) ⟨rfl, rfl, rfl, rfl, rfl, trivial⟩ ?_
      exact law_536 hR hkc hks h4 hv hk h3 hJ (fun j hj => absurd hj (by show ¬ j < l.1; omega)) i p611
    refine jw_istore (pc' := 419) (lc' := [(0, _), (1, _), (2, _), (3, _), (4, _), (9, _), (10, _), (11, _), (12, _), (13, _)]) jd_law_417 (Nat.le_of_ble_eq_true rfl) ⟨rfl, rfl, rfl, rfl, rfl, rfl, rfl, rfl, rfl, rfl, trivial⟩ rfl ?_
    refine jw_iload (pc' := 421) jd_law_419 rfl rfl ?_
    refine zx_iconst (pc' := 422) (n := -1) jd_law_421 rfl ?_
    refine zx_icmp_ne (tgt := 429) (pc' := 425) (by first | exact rg_iv _ _ _ | omega) (by first | exact rg_iv _ _ _ | omega) jd_law_422 (by decide) rfl (fun r1 => ?_) (fun r1 => ?_)
    · exfalso; omega
    refine zx_iconst (pc' := 426) (n := 1) jd_law_425 rfl ?_
    refine jw_goto (tgt := 430) jd_law_426 (by decide) ?_
    refine jw_iload (pc' := 432) jd_law_430 rfl rfl ?_
    refine jw_aload_n (pc' := 433) jd_law_432 rfl rfl rfl ?_
    refine jw_iload (pc' := 435) jd_law_433 rfl rfl ?_
    refine zy_callV0 (pc' := 438) hR hkc hks (f_at h4 hv b hb) jm_Branchwork_at jq_745 jc_Branchwork jd_law_435 (mc_Branchwork _) rfl rfl (Nat.le_of_ble_eq_true rfl) (by omega) (by decide) rfl rfl ?_
    refine zx_icmp_ne (tgt := 445) (pc' := 441) (by first | exact rg_iv _ _ _ | omega) (by first | exact rg_iv _ _ _ | omega) jd_law_438 (by decide) rfl (fun r2 => ?_) (fun r2 => ?_)
    · exfalso; omega
    refine zx_iconst (pc' := 442) (n := 1) jd_law_441 rfl ?_
    refine jw_goto (tgt := 446) jd_law_442 (by decide) ?_
    refine zx_icmp_ne (tgt := 534) (pc' := 449) (by first | exact rg_iv _ _ _ | omega) (by first | exact rg_iv _ _ _ | omega) jd_law_446 (by decide) rfl (fun r3 => ?_) (fun r3 => ?_)
    · exfalso; omega
    refine jw_iload (pc' := 451) jd_law_449 rfl rfl ?_
    refine zx_bipush (pc' := 453) (n := -2) jd_law_451 (by decide +kernel) rfl ?_
    refine zx_icmp_ne (tgt := 460) (pc' := 456) (by first | exact rg_iv _ _ _ | omega) (by first | exact rg_iv _ _ _ | omega) jd_law_453 (by decide) rfl (fun r4 => ?_) (fun r4 => ?_)
    rotate_left
    · exfalso; omega
    refine zx_iconst (pc' := 461) (n := 0) jd_law_460 rfl ?_
    refine jw_iload (pc' := 463) jd_law_461 rfl rfl ?_
    refine jw_iload (pc' := 465) jd_law_463 rfl rfl ?_
    refine zx_icmp_ne (tgt := 483) (pc' := 468) (by first | exact rg_iv _ _ _ | omega) (by first | exact rg_iv _ _ _ | omega) jd_law_465 (by decide) rfl (fun r5 => ?_) (fun r5 => ?_)
    · refine zx_iconst (pc' := 484) (n := 0) jd_law_483 rfl ?_
      refine zx_icmp_ne (tgt := 534) (pc' := 487) (by first | exact rg_iv _ _ _ | omega) (by first | exact rg_iv _ _ _ | omega) jd_law_484 (by decide) rfl (fun r6 => ?_) (fun r6 => ?_)
      · exfalso; omega
      refine jw_sub (lc' := [(0, _), (1, _), (2, _), (3, _), (4, _), (9, _), (11, _), (13, _)]) ⟨rfl, rfl, rfl, rfl, rfl, rfl, rfl, rfl, trivial⟩ ?_
      exact p487
    refine jw_iload (pc' := 470) jd_law_468 rfl rfl ?_
    refine jw_aload_n (pc' := 471) jd_law_470 rfl rfl rfl ?_
    refine jw_iload (pc' := 473) jd_law_471 rfl rfl ?_
    refine zy_callV0 (pc' := 476) hR hkc hks (f_at h4 hv b hb) jm_Branchwork_at jq_745 jc_Branchwork jd_law_473 (mc_Branchwork _) rfl rfl (Nat.le_of_ble_eq_true rfl) (by omega) (by decide) rfl rfl ?_
    refine zx_icmp_eq (tgt := 483) (pc' := 479) (by first | exact rg_iv _ _ _ | omega) (by first | exact rg_iv _ _ _ | omega) jd_law_476 (by decide) rfl (fun r6 => ?_) (fun r6 => ?_)
    rotate_left
    · exfalso; omega
    refine zx_iconst (pc' := 484) (n := 0) jd_law_483 rfl ?_
    refine zx_icmp_ne (tgt := 534) (pc' := 487) (by first | exact rg_iv _ _ _ | omega) (by first | exact rg_iv _ _ _ | omega) jd_law_484 (by decide) rfl (fun r7 => ?_) (fun r7 => ?_)
    · exfalso; omega
    refine jw_sub (lc' := [(0, _), (1, _), (2, _), (3, _), (4, _), (9, _), (11, _), (13, _)]) ⟨rfl, rfl, rfl, rfl, rfl, rfl, rfl, rfl, trivial⟩ ?_
    exact p487
  · have hv4 : GV f g n kp (fun i => if i = cu then tp b else tp i) br cu mg := by
      obtain ⟨y1, y2, y3, y4, y5, y6, y7⟩ := hv
      refine ⟨y1, y2, y3, y4, y5, fun i => ?_, y7⟩
      dsimp only
      have := y6 i
      split <;> omega
    have hJ4 : SJ n (fun i => if i = cu then tp b else tp i) br cu := Or.inr ⟨by omega, fun b2 hb2 => by
      have := hpos b2 hb2
      dsimp only
      split <;> omega⟩
    have atb : (fun i => if i = cu then tp b else tp i) b = tp b := by dsimp only; split <;> rfl
    have atc : (fun i => if i = cu then tp b else tp i) cu = tp b := by dsimp only; rw [if_pos rfl]
    refine jw_istore (pc' := 419) (lc' := [(0, _), (1, _), (2, _), (3, _), (4, _), (9, _), (10, _), (11, _), (12, _), (13, _)]) jd_law_417 (Nat.le_of_ble_eq_true rfl) ⟨rfl, rfl, rfl, rfl, rfl, rfl, rfl, rfl, rfl, rfl, trivial⟩ rfl ?_
    refine jw_iload (pc' := 421) jd_law_419 rfl rfl ?_
    refine zx_iconst (pc' := 422) (n := -1) jd_law_421 rfl ?_
    refine zx_icmp_ne (tgt := 429) (pc' := 425) (by first | exact rg_iv _ _ _ | omega) (by first | exact rg_iv _ _ _ | omega) jd_law_422 (by decide) rfl (fun r1 => ?_) (fun r1 => ?_)
    rotate_left
    · exfalso; omega
    refine zx_iconst (pc' := 430) (n := 0) jd_law_429 rfl ?_
    refine jw_iload (pc' := 432) jd_law_430 rfl rfl ?_
    refine jw_aload_n (pc' := 433) jd_law_432 rfl rfl rfl ?_
    refine jw_iload (pc' := 435) jd_law_433 rfl rfl ?_
    refine zy_callV0 (pc' := 438) hR hkc hks (f_at h4 hv4 b hb) jm_Branchwork_at jq_745 jc_Branchwork jd_law_435 (mc_Branchwork _) rfl rfl (Nat.le_of_ble_eq_true rfl) (by omega) (by decide) rfl rfl ?_
    rw [show (if b = cu then tp b else tp b) = tp b from atb]
    refine zx_icmp_ne (tgt := 445) (pc' := 441) (by first | exact rg_iv _ _ _ | omega) (by first | exact rg_iv _ _ _ | omega) jd_law_438 (by decide) rfl (fun r2 => ?_) (fun r2 => ?_)
    rotate_left
    · exfalso; omega
    refine zx_iconst (pc' := 446) (n := 0) jd_law_445 rfl ?_
    refine zx_icmp_ne (tgt := 534) (pc' := 449) (by first | exact rg_iv _ _ _ | omega) (by first | exact rg_iv _ _ _ | omega) jd_law_446 (by decide) rfl (fun r3 => ?_) (fun r3 => ?_)
    · exfalso; omega
    refine jw_iload (pc' := 451) jd_law_449 rfl rfl ?_
    refine zx_bipush (pc' := 453) (n := -2) jd_law_451 (by decide +kernel) rfl ?_
    refine zx_icmp_ne (tgt := 460) (pc' := 456) (by first | exact rg_iv _ _ _ | omega) (by first | exact rg_iv _ _ _ | omega) jd_law_453 (by decide) rfl (fun r4 => ?_) (fun r4 => ?_)
    · exfalso; omega
    refine zx_iconst (pc' := 457) (n := 1) jd_law_456 rfl ?_
    refine jw_goto (tgt := 461) jd_law_457 (by decide) ?_
    refine jw_iload (pc' := 463) jd_law_461 rfl rfl ?_
    refine jw_iload (pc' := 465) jd_law_463 rfl rfl ?_
    refine zx_icmp_ne (tgt := 483) (pc' := 468) (by first | exact rg_iv _ _ _ | omega) (by first | exact rg_iv _ _ _ | omega) jd_law_465 (by decide) rfl (fun r5 => ?_) (fun r5 => ?_)
    · exfalso; omega
    refine jw_iload (pc' := 470) jd_law_468 rfl rfl ?_
    refine jw_aload_n (pc' := 471) jd_law_470 rfl rfl rfl ?_
    refine jw_iload (pc' := 473) jd_law_471 rfl rfl ?_
    refine zy_callV0 (pc' := 476) hR hkc hks (f_at h4 hv4 b hb) jm_Branchwork_at jq_745 jc_Branchwork jd_law_473 (mc_Branchwork _) rfl rfl (Nat.le_of_ble_eq_true rfl) (by omega) (by decide) rfl rfl ?_
    rw [show (if b = cu then tp b else tp b) = tp b from atb]
    refine zx_icmp_eq (tgt := 483) (pc' := 479) (by first | exact rg_iv _ _ _ | omega) (by first | exact rg_iv _ _ _ | omega) jd_law_476 (by decide) rfl (fun r6 => ?_) (fun r6 => ?_)
    · exfalso; omega
    refine zx_iconst (pc' := 480) (n := 1) jd_law_479 rfl ?_
    refine jw_goto (tgt := 484) jd_law_480 (by decide) ?_
    refine zx_icmp_ne (tgt := 534) (pc' := 487) (by first | exact rg_iv _ _ _ | omega) (by first | exact rg_iv _ _ _ | omega) jd_law_484 (by decide) rfl (fun r7 => ?_) (fun r7 => ?_)
    · exfalso; omega
    refine jw_iload (pc' := 489) jd_law_487 rfl rfl ?_
    refine zx_if_lt (tgt := 513) (pc' := 492) (by first | exact rg_iv _ _ _ | omega) jd_law_489 (by decide) rfl (fun r8 => ?_) (fun r8 => ?_)
    rotate_left
    · exfalso; omega
    refine jw_iload (pc' := 515) jd_law_513 rfl rfl ?_
    refine zx_bipush (pc' := 517) (n := -2) jd_law_515 (by decide +kernel) rfl ?_
    refine zx_icmp_ne (tgt := 536) (pc' := 520) (by first | exact rg_iv _ _ _ | omega) (by first | exact rg_iv _ _ _ | omega) jd_law_517 (by decide) rfl (fun r9 => ?_) (fun r9 => ?_)
    · exfalso; omega
    refine jw_aload_n (pc' := 521) jd_law_520 rfl rfl rfl ?_
    refine zx_iconst (pc' := 522) (n := 1) jd_law_521 rfl ?_
    refine zy_callV0 (pc' := 525) hR hkc hks (f_now h4 hv4 1 (by omega)) jm_Branchwork_now jq_740 jc_Branchwork jd_law_522 (mc_Branchwork _) rfl rfl (Nat.le_of_ble_eq_true rfl) (by omega) (by decide) rfl rfl ?_
    rw [show nwF (fun i => if i = cu then tp b else tp i) cu mg 1 = tp b from atc]
    refine jw_aload_n (pc' := 526) jd_law_525 rfl rfl rfl ?_
    refine jw_iload (pc' := 528) jd_law_526 rfl rfl ?_
    refine zy_callV0 (pc' := 531) hR hkc hks (f_at h4 hv4 b hb) jm_Branchwork_at jq_745 jc_Branchwork jd_law_528 (mc_Branchwork _) rfl rfl (Nat.le_of_ble_eq_true rfl) (by omega) (by decide) rfl rfl ?_
    rw [show (if b = cu then tp b else tp b) = tp b from atb]
    refine zx_icmp_eq (tgt := 536) (pc' := 534) (by first | exact rg_iv _ _ _ | omega) (by first | exact rg_iv _ _ _ | omega) jd_law_531 (by decide) rfl (fun r10 => ?_) (fun r10 => ?_)
    rotate_left
    · exfalso; omega
    refine jw_sub (lc' := [(0, _), (1, _), (2, _), (3, _), (4, _)]) ⟨rfl, rfl, rfl, rfl, rfl, trivial⟩ ?_
    exact law_536 hR hkc hks h4 hv4 hk h3 hJ4 (fun j hj => absurd hj (by show ¬ j < l.1; omega)) i p611
  · have hv4 : GV f g n kp tp br cu (tp b) := by
      obtain ⟨y1, y2, y3, y4, y5, y6, -, -, y9⟩ := hv
      exact ⟨y1, y2, y3, y4, y5, y6, rb.1, rb.2, y9⟩
    have hcf : cfP ((mgF (trV Ts (caF f g (tp cu) (tp b))) (trV Ts (tp cu)) (trV Ts (tp b))).1, (mgF (trV Ts (caF f g (tp cu) (tp b))) (trV Ts (tp cu)) (trV Ts (tp b))).2) := mgF_cf (okT _) (okT _) (okT _)
    refine jw_istore (pc' := 419) (lc' := [(0, _), (1, _), (2, _), (3, _), (4, _), (9, _), (10, _), (11, _), (12, _), (13, _)]) jd_law_417 (Nat.le_of_ble_eq_true rfl) ⟨rfl, rfl, rfl, rfl, rfl, rfl, rfl, rfl, rfl, rfl, trivial⟩ rfl ?_
    refine jw_iload (pc' := 421) jd_law_419 rfl rfl ?_
    refine zx_iconst (pc' := 422) (n := -1) jd_law_421 rfl ?_
    refine zx_icmp_ne (tgt := 429) (pc' := 425) (by first | exact rg_iv _ _ _ | omega) (by first | exact rg_iv _ _ _ | omega) jd_law_422 (by decide) rfl (fun r1 => ?_) (fun r1 => ?_)
    rotate_left
    · exfalso; omega
    refine zx_iconst (pc' := 430) (n := 0) jd_law_429 rfl ?_
    refine jw_iload (pc' := 432) jd_law_430 rfl rfl ?_
    refine jw_aload_n (pc' := 433) jd_law_432 rfl rfl rfl ?_
    refine jw_iload (pc' := 435) jd_law_433 rfl rfl ?_
    refine zy_callV0 (pc' := 438) hR hkc hks (f_at h4 hv4 b hb) jm_Branchwork_at jq_745 jc_Branchwork jd_law_435 (mc_Branchwork _) rfl rfl (Nat.le_of_ble_eq_true rfl) (by omega) (by decide) rfl rfl ?_
    refine zx_icmp_ne (tgt := 445) (pc' := 441) (by first | exact rg_iv _ _ _ | omega) (by first | exact rg_iv _ _ _ | omega) jd_law_438 (by decide) rfl (fun r2 => ?_) (fun r2 => ?_)
    rotate_left
    · exfalso; omega
    refine zx_iconst (pc' := 446) (n := 0) jd_law_445 rfl ?_
    refine zx_icmp_ne (tgt := 534) (pc' := 449) (by first | exact rg_iv _ _ _ | omega) (by first | exact rg_iv _ _ _ | omega) jd_law_446 (by decide) rfl (fun r3 => ?_) (fun r3 => ?_)
    · exfalso; omega
    refine jw_iload (pc' := 451) jd_law_449 rfl rfl ?_
    refine zx_bipush (pc' := 453) (n := -2) jd_law_451 (by decide +kernel) rfl ?_
    refine zx_icmp_ne (tgt := 460) (pc' := 456) (by first | exact rg_iv _ _ _ | omega) (by first | exact rg_iv _ _ _ | omega) jd_law_453 (by decide) rfl (fun r4 => ?_) (fun r4 => ?_)
    rotate_left
    · exfalso; omega
    refine zx_iconst (pc' := 461) (n := 0) jd_law_460 rfl ?_
    refine jw_iload (pc' := 463) jd_law_461 rfl rfl ?_
    refine jw_iload (pc' := 465) jd_law_463 rfl rfl ?_
    refine zx_icmp_ne (tgt := 483) (pc' := 468) (by first | exact rg_iv _ _ _ | omega) (by first | exact rg_iv _ _ _ | omega) jd_law_465 (by decide) rfl (fun r5 => ?_) (fun r5 => ?_)
    rotate_left
    · exfalso; omega
    refine zx_iconst (pc' := 484) (n := 0) jd_law_483 rfl ?_
    refine zx_icmp_ne (tgt := 534) (pc' := 487) (by first | exact rg_iv _ _ _ | omega) (by first | exact rg_iv _ _ _ | omega) jd_law_484 (by decide) rfl (fun r6 => ?_) (fun r6 => ?_)
    · exfalso; omega
    refine jw_iload (pc' := 489) jd_law_487 rfl rfl ?_
    refine zx_if_lt (tgt := 513) (pc' := 492) (by first | exact rg_iv _ _ _ | omega) jd_law_489 (by decide) rfl (fun r7 => ?_) (fun r7 => ?_)
    · exfalso; omega
    refine jw_iload (pc' := 494) jd_law_492 rfl rfl ?_
    refine jw_iload (pc' := 496) jd_law_494 rfl rfl ?_
    refine zx_icmp_ne (tgt := 534) (pc' := 499) (by first | exact rg_iv _ _ _ | omega) (by first | exact rg_iv _ _ _ | omega) jd_law_496 (by decide) rfl (fun r8 => ?_) (fun r8 => ?_)
    · exfalso; omega
    refine jw_aload_n (pc' := 500) jd_law_499 rfl rfl rfl ?_
    refine zx_iconst (pc' := 501) (n := 2) jd_law_500 rfl ?_
    refine zy_callV0 (pc' := 504) hR hkc hks (f_now h4 hv4 2 (by omega)) jm_Branchwork_now jq_740 jc_Branchwork jd_law_501 (mc_Branchwork _) rfl rfl (Nat.le_of_ble_eq_true rfl) (by omega) (by decide) rfl rfl ?_
    rw [show nwF tp cu (tp b) 2 = tp b from rfl]
    refine jw_aload_n (pc' := 505) jd_law_504 rfl rfl rfl ?_
    refine jw_iload (pc' := 507) jd_law_505 rfl rfl ?_
    refine zy_callV0 (pc' := 510) hR hkc hks (f_at h4 hv4 b hb) jm_Branchwork_at jq_745 jc_Branchwork jd_law_507 (mc_Branchwork _) rfl rfl (Nat.le_of_ble_eq_true rfl) (by omega) (by decide) rfl rfl ?_
    refine zx_icmp_ne (tgt := 534) (pc' := 513) (by first | exact rg_iv _ _ _ | omega) (by first | exact rg_iv _ _ _ | omega) jd_law_510 (by decide) rfl (fun r9 => ?_) (fun r9 => ?_)
    · exfalso; omega
    refine jw_iload (pc' := 515) jd_law_513 rfl rfl ?_
    refine zx_bipush (pc' := 517) (n := -2) jd_law_515 (by decide +kernel) rfl ?_
    refine zx_icmp_ne (tgt := 536) (pc' := 520) (by first | exact rg_iv _ _ _ | omega) (by first | exact rg_iv _ _ _ | omega) jd_law_517 (by decide) rfl (fun r10 => ?_) (fun r10 => ?_)
    rotate_left
    · exfalso; omega
    refine jw_sub (lc' := [(0, _), (1, _), (2, _), (3, _), (4, _)]) ⟨rfl, rfl, rfl, rfl, rfl, trivial⟩ ?_
    exact law_536 hR hkc hks h4 hv4 hk h3 hJ hcf i p611
theorem law_274 (hR : jw_Rm k 10 604185 7289070) (hkc : kc ≤ 604185) (hks : ks ≤ 7289070) (h : GS o σ w Ts f g t c n kp l tp br cu mg) (hv : GV f g n kp tp br cu mg) (hl : l.1 = 0) (hk : ∀ j, kp.testBit j = decide (j < n)) (h3 : br ≤ 3) (hJ : SJ n tp br cu) (i : Nat) (x : Int32) (kd : Nat) (hkd : kd < 9)
    (p611 : ∀ s, SL o s n br → jw_X (mi_lawN nm) o k kc ks 611 [(0, .ref o.2.2.2.2), (1, .ref (zb o)), (2, .int (iI br)), (3, .int (iI n)), (4, .int (iI i))] [] (mm o s) hs) : jw_X (mi_lawN nm) o k kc ks 274 [(0, .ref o.2.2.2.2), (1, .ref (zb o)), (2, .int (iI br)), (3, .int (iI n)), (4, .int (iI i)), (5, .int x), (8, .int (iI kd))] [] (mm o σ) hs := by
  have v7 := hv.2.2.2.2.2.2.1
  have v8 := hv.2.2.2.2.2.2.2.1
  have v9 := hv.2.2.2.2.2.2.2.2
  have v5 := hv.2.2.2.2.1
  have v4 := hv.2.2.2.1
  have v3 := hv.2.2.1
  have ec := eqT_01 w (trV Ts (tp cu))
  have nxt : jw_X (mi_lawN nm) o k kc ks 332 [(0, .ref o.2.2.2.2), (1, .ref (zb o)), (2, .int (iI br)), (3, .int (iI n)), (4, .int (iI i)), (5, .int x), (8, .int (iI kd))] [] (mm o σ) hs := law_332 hR hkc hks h hv hl hk h3 hJ i x kd hkd p611
  refine jw_iload (pc' := 276) jd_law_274 rfl rfl ?_
  refine zx_bipush (pc' := 278) (n := 7) jd_law_276 (by decide +kernel) rfl ?_
  refine zx_icmp_ne (tgt := 332) (pc' := 281) (by first | exact rg_iv _ _ _ | omega) (by first | exact rg_iv _ _ _ | omega) jd_law_278 (by decide) rfl (fun q1 => ?_) (fun q1 => ?_)
  · skip
    exact nxt
  refine jw_aload_n (pc' := 282) jd_law_281 rfl rfl rfl ?_
  refine zy_callS0 (pc' := 285) hR hkc hks (q_clean h hv) jm_BranchworkLaw_isClean jq_883 jd_law_282 rfl rfl (Nat.le_of_ble_eq_true rfl) (by omega) (by decide) rfl rfl ?_
  refine zx_if_eq (tgt := 332) (pc' := 288) (by first | exact rg_iv _ _ _ | omega) jd_law_285 (by decide) rfl (fun q2 => ?_) (fun q2 => ?_)
  · skip
    exact nxt
  refine jw_aload_n (pc' := 289) jd_law_288 rfl rfl rfl ?_
  refine zx_iconst (pc' := 290) (n := 2) jd_law_289 rfl ?_
  refine zy_callV0 (pc' := 293) hR hkc hks (f_now h hv 2 (by omega)) jm_Branchwork_now jq_740 jc_Branchwork jd_law_290 (mc_Branchwork _) rfl rfl (Nat.le_of_ble_eq_true rfl) (by omega) (by decide) rfl rfl ?_
  rw [show nwF tp cu mg 2 = mg from rfl]
  refine zx_if_ge (tgt := 332) (pc' := 296) (by first | exact rg_iv _ _ _ | omega) jd_law_293 (by decide) rfl (fun q3 => ?_) (fun q3 => ?_)
  · skip
    exact nxt
  refine jw_aload_n (pc' := 297) jd_law_296 rfl rfl rfl ?_
  refine zx_iconst (pc' := 298) (n := 0) jd_law_297 rfl ?_
  refine zy_callV0 (pc' := 301) hR hkc hks (f_now h hv 0 (by omega)) jm_Branchwork_now jq_740 jc_Branchwork jd_law_298 (mc_Branchwork _) rfl rfl (Nat.le_of_ble_eq_true rfl) (by omega) (by decide) rfl rfl ?_
  rw [show nwF tp cu mg 0 = (cu : Int) from rfl]
  refine jw_istore (pc' := 303) (lc' := [(0, _), (1, _), (2, _), (3, _), (4, _), (5, _), (9, _)]) jd_law_301 (Nat.le_of_ble_eq_true rfl) ⟨rfl, rfl, rfl, rfl, rfl, rfl, rfl, trivial⟩ rfl ?_
  refine jw_aload_n (pc' := 304) jd_law_303 rfl rfl rfl ?_
  refine jw_iload (pc' := 306) jd_law_304 rfl rfl ?_
  refine jw_iconst (pc' := 307) jd_law_306 (v := iI 4) rfl rfl ?_
  refine jw_ishr (pc' := 308) jd_law_307 rfl rfl ?_
  refine jw_iload_n (pc' := 309) jd_law_308 rfl rfl rfl ?_
  refine zy_callS (pc' := 312) hR hkc hks (q_below _ br (by omega)) jm_BranchworkLaw_below jq_872 jd_law_309 rfl rfl (Nat.le_of_ble_eq_true rfl) (by omega) (by decide) rfl (fun v9 s1 q9 => ?_)
  obtain ⟨⟨b, hb, rfl⟩, e1⟩ := q9
  rw [e1]
  refine zy_callV (pc' := 315) hR hkc hks (f_change h hv b hb (by omega) (by omega)) jm_Branchwork_change jq_496 jc_Branchwork jd_law_312 (mc_Branchwork _) rfl rfl (Nat.le_of_ble_eq_true rfl) (by omega) (by decide) rfl (fun v9 s2 q9 => ?_)
  obtain ⟨rfl, h2⟩ := q9
  have hv2 := hv.atB hb
  refine jw_iload (pc' := 317) jd_law_315 rfl rfl ?_
  refine zx_icmp_ne (tgt := 327) (pc' := 320) (by first | exact rg_iv _ _ _ | omega) (by first | exact rg_iv _ _ _ | omega) jd_law_317 (by decide) rfl (fun q4 => ?_) (fun q4 => ?_)
  · exfalso; omega
  refine jw_aload_n (pc' := 321) jd_law_320 rfl rfl rfl ?_
  refine zy_callS0 (pc' := 324) hR hkc hks (q_clean h2 hv2) jm_BranchworkLaw_isClean jq_883 jd_law_321 rfl rfl (Nat.le_of_ble_eq_true rfl) (by omega) (by decide) rfl rfl ?_
  rw [eqT_t (fun p hp => rfl)]
  refine zx_if_ne (tgt := 329) (pc' := 327) (by first | exact rg_iv _ _ _ | omega) jd_law_324 (by decide) rfl (fun q5 => ?_) (fun q5 => ?_)
  rotate_left
  · exfalso; omega
  refine jw_goto (tgt := 611) jd_law_329 (by decide) ?_
  refine jw_sub (lc' := [(0, _), (1, _), (2, _), (3, _), (4, _)]) ⟨rfl, rfl, rfl, rfl, rfl, trivial⟩ ?_
  refine p611 s2 ⟨_, Ts, f, g, t, c, kp, l, tp, b, mg, h2, hv2, hl, hk, h3, ?_⟩
  rcases hJ with ⟨z1, z2, z3, z4⟩ | z
  · exact Or.inl ⟨z1, by omega, z3, z4⟩
  · exact Or.inr z
theorem law_196 (hR : jw_Rm k 10 604185 7289070) (hkc : kc ≤ 604185) (hks : ks ≤ 7289070) (h : GS o σ w Ts f g t c n kp l tp br cu mg) (hv : GV f g n kp tp br cu mg) (hl : l.1 = 0) (hk : ∀ j, kp.testBit j = decide (j < n)) (h3 : br ≤ 3) (hJ : SJ n tp br cu) (i : Nat) (hi : i < 30) (x : Int32) (kd : Nat) (hkd : kd < 9)
    (p611 : ∀ s n2 br2, SL o s n2 br2 → jw_X (mi_lawN nm) o k kc ks 611 [(0, .ref o.2.2.2.2), (1, .ref (zb o)), (2, .int (iI br2)), (3, .int (iI n2)), (4, .int (iI i))] [] (mm o s) hs) : jw_X (mi_lawN nm) o k kc ks 196 [(0, .ref o.2.2.2.2), (1, .ref (zb o)), (2, .int (iI br)), (3, .int (iI n)), (4, .int (iI i)), (5, .int x), (8, .int (iI kd))] [] (mm o σ) hs := by
  have v9 := hv.2.2.2.2.2.2.2.2
  have v5 := hv.2.2.2.2.1
  have v4 := hv.2.2.2.1
  have v3 := hv.2.2.1
  have ec := eqT_01 w (trV Ts (tp cu))
  have e3 : mnF w t c kp l br 3 = l.1 := rfl
  have nxt : ∀ s, GS o s w Ts f g t c n kp l tp br cu mg → jw_X (mi_lawN nm) o k kc ks 274 [(0, .ref o.2.2.2.2), (1, .ref (zb o)), (2, .int (iI br)), (3, .int (iI n)), (4, .int (iI i)), (5, .int x), (8, .int (iI kd))] [] (mm o s) hs := fun s h => law_274 hR hkc hks h hv hl hk h3 hJ i x kd hkd (fun s h => p611 s n br h)
  refine jw_iload (pc' := 198) jd_law_196 rfl rfl ?_
  refine zx_bipush (pc' := 200) (n := 7) jd_law_198 (by decide +kernel) rfl ?_
  refine zx_icmp_ge (tgt := 274) (pc' := 203) (by first | exact rg_iv _ _ _ | omega) (by first | exact rg_iv _ _ _ | omega) jd_law_200 (by decide) rfl (fun q1 => ?_) (fun q1 => ?_)
  · skip
    exact nxt σ h
  refine jw_aload_n (pc' := 204) jd_law_203 rfl rfl rfl ?_
  refine zy_callS0 (pc' := 207) hR hkc hks (q_clean h hv) jm_BranchworkLaw_isClean jq_883 jd_law_204 rfl rfl (Nat.le_of_ble_eq_true rfl) (by omega) (by decide) rfl rfl ?_
  refine zx_if_ne (tgt := 274) (pc' := 210) (by first | exact rg_iv _ _ _ | omega) jd_law_207 (by decide) rfl (fun q2 => ?_) (fun q2 => ?_)
  · skip
    exact nxt σ h
  refine jw_aload_n (pc' := 211) jd_law_210 rfl rfl rfl ?_
  refine zx_iconst (pc' := 212) (n := 3) jd_law_211 rfl ?_
  refine zy_callV (pc' := 215) hR hkc hks (f_many h 3 (by omega)) jm_Branchwork_many jq_727 jc_Branchwork jd_law_212 (mc_Branchwork _) rfl rfl (Nat.le_of_ble_eq_true rfl) (by omega) (by decide) rfl (fun v9 s1 q9 => ?_)
  obtain ⟨rfl, E1⟩ := q9
  rw [e3]
  have g1 := h.e E1
  refine zx_if_ne (tgt := 274) (pc' := 218) (by first | exact rg_iv _ _ _ | omega) jd_law_215 (by decide) rfl (fun q3 => ?_) (fun q3 => ?_)
  · exfalso; omega
  refine jw_iload_n (pc' := 219) jd_law_218 rfl rfl rfl ?_
  refine zx_bipush (pc' := 221) (n := 30) jd_law_219 (by decide +kernel) rfl ?_
  refine zx_icmp_ge (tgt := 274) (pc' := 224) (by first | exact rg_iv _ _ _ | omega) (by first | exact rg_iv _ _ _ | omega) jd_law_221 (by decide) rfl (fun q4 => ?_) (fun q4 => ?_)
  · skip
    exact nxt s1 g1
  refine jw_aload_n (pc' := 225) jd_law_224 rfl rfl rfl ?_
  refine jw_iload (pc' := 227) jd_law_225 rfl rfl ?_
  refine zy_callV (pc' := 230) hR hkc hks (f_commit g1 hv (i : Int) (by omega) (by omega) hl (fun _ => by omega)) jm_Branchwork_commit jq_429 jc_Branchwork jd_law_227 (mc_Branchwork _) rfl rfl (Nat.le_of_ble_eq_true rfl) (by omega) (by decide) rfl (fun v9 s2 q9 => ?_)
  obtain ⟨rfl, t2, c2, h2⟩ := q9
  have hv2 := hv.com (by omega) hk
  have hk2 := z_or_bit hk
  have hJ2 : SJ (n + 1) (fun i => if i = cu then (n : Int) else tp i) br cu := by
    refine Or.inr ⟨by omega, fun b hb => ?_⟩
    dsimp only
    by_cases e : b = cu
    · rw [if_pos e]; omega
    · rw [if_neg e]
      rcases hJ with z | z
      · omega
      · exact z.2 b hb
  have tc : (fun i => if i = cu then (n : Int) else tp i) cu = n := by dsimp only; rw [if_pos rfl]
  have tw : trV (fun i => if i = n then w else Ts i) (n : Int) = w := by rw [trV_i _ (by omega)]; show (if n = n then w else Ts n) = w; rw [if_pos rfl]
  have hq := q_clean h2 hv2
  rw [if_pos (rfl : cu = cu), tw, eqT_t (fun p hp => rfl)] at hq
  have hnow := f_now h2 hv2 0 (by omega)
  rw [show nwF (fun i => if i = cu then (n : Int) else tp i) cu (-1) 0 = (cu : Int) from rfl] at hnow
  have hat := f_at h2 hv2 cu v5
  rw [if_pos (rfl : cu = cu)] at hat
  refine jw_iload_n (pc' := 231) jd_law_230 rfl rfl rfl ?_
  refine zx_icmp_ne (tgt := 254) (pc' := 234) (by first | exact rg_iv _ _ _ | omega) (by first | exact rg_iv _ _ _ | omega) jd_law_231 (by decide) rfl (fun q5 => ?_) (fun q5 => ?_)
  · exfalso; omega
  refine jw_aload_n (pc' := 235) jd_law_234 rfl rfl rfl ?_
  refine zy_callS0 (pc' := 238) hR hkc hks (hq) jm_BranchworkLaw_isClean jq_883 jd_law_235 rfl rfl (Nat.le_of_ble_eq_true rfl) (by omega) (by decide) rfl rfl ?_
  refine zx_if_eq (tgt := 254) (pc' := 241) (by first | exact rg_iv _ _ _ | omega) jd_law_238 (by decide) rfl (fun q6 => ?_) (fun q6 => ?_)
  · exfalso; omega
  refine jw_aload_n (pc' := 242) jd_law_241 rfl rfl rfl ?_
  refine jw_aload_n (pc' := 243) jd_law_242 rfl rfl rfl ?_
  refine zx_iconst (pc' := 244) (n := 0) jd_law_243 rfl ?_
  refine zy_callV0 (pc' := 247) hR hkc hks (hnow) jm_Branchwork_now jq_740 jc_Branchwork jd_law_244 (mc_Branchwork _) rfl rfl (Nat.le_of_ble_eq_true rfl) (by omega) (by decide) rfl rfl ?_
  refine zy_callV0 (pc' := 250) hR hkc hks (hat) jm_Branchwork_at jq_745 jc_Branchwork jd_law_247 (mc_Branchwork _) rfl rfl (Nat.le_of_ble_eq_true rfl) (by omega) (by decide) rfl rfl ?_
  refine jw_iload_n (pc' := 251) jd_law_250 rfl rfl rfl ?_
  refine zx_icmp_eq (tgt := 256) (pc' := 254) (by first | exact rg_iv _ _ _ | omega) (by first | exact rg_iv _ _ _ | omega) jd_law_251 (by decide) rfl (fun q7 => ?_) (fun q7 => ?_)
  rotate_left
  · exfalso; omega
  refine zx_iinc (pc' := 259) (lc' := [(0, _), (1, _), (2, _), (3, _), (4, _)]) jd_law_256 rfl (Nat.le_of_ble_eq_true rfl) ⟨rfl, rfl, rfl, rfl, rfl, trivial⟩ rfl ?_
  rw [show (n : Int) + 1 = ((n + 1 : Nat) : Int) by omega]
  refine jw_iload_n (pc' := 260) jd_law_259 rfl rfl rfl ?_
  refine zx_iconst (pc' := 261) (n := 3) jd_law_260 rfl ?_
  refine zx_icmp_ge (tgt := 611) (pc' := 264) (by first | exact rg_iv _ _ _ | omega) (by first | exact rg_iv _ _ _ | omega) jd_law_261 (by decide) rfl (fun q8 => ?_) (fun q8 => ?_)
  · skip
    exact p611 s2 (n + 1) br ⟨w, _, _, _, t2, c2, _, l, _, cu, -1, h2, hv2, hl, hk2, h3, hJ2⟩
  have hb := f_branch h2 hv2 (by rw [if_pos (rfl : cu = cu)]; omega) (by omega)
  have hv3 := hv2.bra (by omega)
  refine jw_aload_n (pc' := 265) jd_law_264 rfl rfl rfl ?_
  refine zy_callV (pc' := 268) hR hkc hks (hb) jm_Branchwork_branch jq_490 jc_Branchwork jd_law_265 (mc_Branchwork _) rfl rfl (Nat.le_of_ble_eq_true rfl) (by omega) (by decide) rfl (fun v9 s3 q9 => ?_)
  obtain ⟨rfl, h4⟩ := q9
  refine zx_iconst (pc' := 269) (n := 1) jd_law_268 rfl ?_
  refine zx_iadd (pc' := 270) jd_law_269 rfl ?_
  refine jw_istore_n (pc' := 271) (lc' := [(0, _), (1, _), (2, _), (3, _), (4, _)]) jd_law_270 rfl (Nat.le_of_ble_eq_true rfl) ⟨rfl, rfl, rfl, rfl, rfl, trivial⟩ rfl ?_
  refine jw_goto (tgt := 611) jd_law_271 (by decide) ?_
  rw [show (br : Int) + 1 = ((br + 1 : Nat) : Int) by omega]
  refine p611 s3 (n + 1) (br + 1) ⟨w, _, _, _, t2, c2, _, l, _, cu, -1, h4, hv3, hl, hk2, by omega, Or.inr ⟨by omega, fun b hb => ?_⟩⟩
  dsimp only
  rw [if_pos (rfl : cu = cu)]
  by_cases e : b = br
  · rw [if_pos e]; omega
  · rw [if_neg e]
    rcases hJ2 with z | z
    · omega
    · exact z.2 b (by omega)
theorem law_131 (hR : jw_Rm k 10 604185 7289070) (hkc : kc ≤ 604185) (hks : ks ≤ 7289070) (h : GS o σ w Ts f g t c n kp l tp br cu mg) (hv : GV f g n kp tp br cu mg) (hl : l.1 = 0) (hk : ∀ j, kp.testBit j = decide (j < n)) (h3 : br ≤ 3) (hJ : SJ n tp br cu) (i : Nat) (hi : i < 30) (x : Int32) (p : Nat) (hp : p < 4) (kd : Nat) (hkd : kd < 9)
    (p611 : ∀ s n2 br2, SL o s n2 br2 → jw_X (mi_lawN nm) o k kc ks 611 [(0, .ref o.2.2.2.2), (1, .ref (zb o)), (2, .int (iI br2)), (3, .int (iI n2)), (4, .int (iI i))] [] (mm o s) hs) : jw_X (mi_lawN nm) o k kc ks 131 [(0, .ref o.2.2.2.2), (1, .ref (zb o)), (2, .int (iI br)), (3, .int (iI n)), (4, .int (iI i)), (5, .int x), (6, .int (iI p)), (7, .int (iI (szF (w p)))), (8, .int (iI kd))] [] (mm o σ) hs := by
  have ok1 := (h.1.2 p (by omega)).2.1
  have ok2 := (h.1.2 (p + 4) (by omega)).2.1
  have n1 := ok1.n
  have n2 := ok2.n
  have s1 : szF (w p) = -1 ∧ (w p).1 = 0 ∨ szF (w p) = (w p).2.1 ∧ ¬ (w p).1 = 0 := by
    unfold szF
    by_cases z : (w p).1 = 0
    · rw [if_pos z]; exact Or.inl ⟨rfl, z⟩
    · rw [if_neg z]; exact Or.inr ⟨rfl, z⟩
  have s2 : szF (w (p + 4)) = -1 ∧ (w (p + 4)).1 = 0 ∨ szF (w (p + 4)) = (w (p + 4)).2.1 ∧ ¬ (w (p + 4)).1 = 0 := by
    unfold szF
    by_cases z : (w (p + 4)).1 = 0
    · rw [if_pos z]; exact Or.inl ⟨rfl, z⟩
    · rw [if_neg z]; exact Or.inr ⟨rfl, z⟩
  have e4 : (p : Int) + 4 = ((p + 4 : Nat) : Int) := by omega
  have nxt : jw_X (mi_lawN nm) o k kc ks 196 [(0, .ref o.2.2.2.2), (1, .ref (zb o)), (2, .int (iI br)), (3, .int (iI n)), (4, .int (iI i)), (5, .int x), (8, .int (iI kd))] [] (mm o σ) hs := law_196 hR hkc hks h hv hl hk h3 hJ i hi x kd hkd p611
  refine jw_iload (pc' := 133) jd_law_131 rfl rfl ?_
  refine zx_iconst (pc' := 134) (n := 4) jd_law_133 rfl ?_
  refine zx_icmp_ne (tgt := 196) (pc' := 137) (by first | exact rg_iv _ _ _ | omega) (by first | exact rg_iv _ _ _ | omega) jd_law_134 (by decide) rfl (fun q1 => ?_) (fun q1 => ?_)
  · refine jw_sub (lc' := [(0, _), (1, _), (2, _), (3, _), (4, _), (5, _), (8, _)]) ⟨rfl, rfl, rfl, rfl, rfl, rfl, rfl, trivial⟩ ?_
    exact nxt
  refine jw_iload (pc' := 139) jd_law_137 rfl rfl ?_
  refine zx_if_lt (tgt := 196) (pc' := 142) (by first | exact rg_iv _ _ _ | omega) jd_law_139 (by decide) rfl (fun q2 => ?_) (fun q2 => ?_)
  · refine jw_sub (lc' := [(0, _), (1, _), (2, _), (3, _), (4, _), (5, _), (8, _)]) ⟨rfl, rfl, rfl, rfl, rfl, rfl, rfl, trivial⟩ ?_
    exact nxt
  refine jw_aload_n (pc' := 143) jd_law_142 rfl rfl rfl ?_
  refine zx_iconst (pc' := 144) (n := -1) jd_law_143 rfl ?_
  refine jw_iload (pc' := 146) jd_law_144 rfl rfl ?_
  refine zx_iconst (pc' := 147) (n := 4) jd_law_146 rfl ?_
  refine zx_iadd (pc' := 148) jd_law_147 rfl ?_
  rw [e4]
  refine zy_callV0 (pc' := 151) hR hkc hks (f_sizeW h (p + 4) (by omega)) jm_Branchwork_size jq_776 jc_Branchwork jd_law_148 (mc_Branchwork _) rfl rfl (Nat.le_of_ble_eq_true rfl) (by omega) (by decide) rfl rfl ?_
  refine zx_if_ge (tgt := 196) (pc' := 154) (by first | exact rg_iv _ _ _ | omega) jd_law_151 (by decide) rfl (fun q3 => ?_) (fun q3 => ?_)
  · refine jw_sub (lc' := [(0, _), (1, _), (2, _), (3, _), (4, _), (5, _), (8, _)]) ⟨rfl, rfl, rfl, rfl, rfl, rfl, rfl, trivial⟩ ?_
    exact nxt
  refine jw_aload_n (pc' := 155) jd_law_154 rfl rfl rfl ?_
  refine jw_iload (pc' := 157) jd_law_155 rfl rfl ?_
  refine jw_iload (pc' := 159) jd_law_157 rfl rfl ?_
  refine zx_iconst (pc' := 160) (n := 4) jd_law_159 rfl ?_
  refine zx_iadd (pc' := 161) jd_law_160 rfl ?_
  rw [e4]
  refine zy_callV (pc' := 164) hR hkc hks (f_rename h p (p + 4) (by omega) (by omega) (by omega) (by omega) (by omega)) jm_Branchwork_rename jq_394 jc_Branchwork jd_law_161 (mc_Branchwork _) rfl rfl (Nat.le_of_ble_eq_true rfl) (by omega) (by decide) rfl (fun v9 sa q9 => ?_)
  obtain ⟨rfl, w2, h2, r1, r2⟩ := q9
  have z1 : szF (w2 p) = -1 := by rw [r2]; rfl
  have z2 : szF (w2 (p + 4)) = szF (w p) := by rw [r1]
  refine jw_iload (pc' := 166) jd_law_164 rfl rfl ?_
  refine zx_icmp_ne (tgt := 194) (pc' := 169) (by first | exact rg_iv _ _ _ | omega) (by first | exact rg_iv _ _ _ | omega) jd_law_166 (by decide) rfl (fun q4 => ?_) (fun q4 => ?_)
  · exfalso; omega
  refine jw_aload_n (pc' := 170) jd_law_169 rfl rfl rfl ?_
  refine zx_iconst (pc' := 171) (n := -1) jd_law_170 rfl ?_
  refine jw_iload (pc' := 173) jd_law_171 rfl rfl ?_
  refine zy_callV0 (pc' := 176) hR hkc hks (f_sizeW h2 p (by omega)) jm_Branchwork_size jq_776 jc_Branchwork jd_law_173 (mc_Branchwork _) rfl rfl (Nat.le_of_ble_eq_true rfl) (by omega) (by decide) rfl rfl ?_
  rw [z1]
  refine zx_iconst (pc' := 177) (n := -1) jd_law_176 rfl ?_
  refine zx_icmp_ne (tgt := 194) (pc' := 180) (by first | exact rg_iv _ _ _ | omega) (by first | exact rg_iv _ _ _ | omega) jd_law_177 (by decide) rfl (fun q5 => ?_) (fun q5 => ?_)
  · exfalso; omega
  refine jw_aload_n (pc' := 181) jd_law_180 rfl rfl rfl ?_
  refine zx_iconst (pc' := 182) (n := -1) jd_law_181 rfl ?_
  refine jw_iload (pc' := 184) jd_law_182 rfl rfl ?_
  refine zx_iconst (pc' := 185) (n := 4) jd_law_184 rfl ?_
  refine zx_iadd (pc' := 186) jd_law_185 rfl ?_
  rw [e4]
  refine zy_callV0 (pc' := 189) hR hkc hks (f_sizeW h2 (p + 4) (by omega)) jm_Branchwork_size jq_776 jc_Branchwork jd_law_186 (mc_Branchwork _) rfl rfl (Nat.le_of_ble_eq_true rfl) (by omega) (by decide) rfl rfl ?_
  rw [z2]
  refine jw_iload (pc' := 191) jd_law_189 rfl rfl ?_
  refine zx_icmp_eq (tgt := 611) (pc' := 194) (by first | exact rg_iv _ _ _ | omega) (by first | exact rg_iv _ _ _ | omega) jd_law_191 (by decide) rfl (fun q6 => ?_) (fun q6 => ?_)
  rotate_left
  · exfalso; omega
  refine jw_sub (lc' := [(0, _), (1, _), (2, _), (3, _), (4, _)]) ⟨rfl, rfl, rfl, rfl, rfl, trivial⟩ ?_
  exact p611 sa n br ⟨w2, Ts, f, g, t, c, kp, l, tp, cu, mg, h2, hv, hl, hk, h3, hJ⟩
theorem law_47 (hR : jw_Rm k 10 604185 7289070) (hkc : kc ≤ 604185) (hks : ks ≤ 7289070) (h : GS o σ w Ts f g t c n kp l tp br cu mg) (hv : GV f g n kp tp br cu mg) (hl : l.1 = 0) (hk : ∀ j, kp.testBit j = decide (j < n)) (h3 : br ≤ 3) (hJ : SJ n tp br cu) (i : Nat) (hi : i < 30) (x : Int32)
    (p611 : ∀ s n2 br2, SL o s n2 br2 → jw_X (mi_lawN nm) o k kc ks 611 [(0, .ref o.2.2.2.2), (1, .ref (zb o)), (2, .int (iI br2)), (3, .int (iI n2)), (4, .int (iI i))] [] (mm o s) hs) : jw_X (mi_lawN nm) o k kc ks 47 [(0, .ref o.2.2.2.2), (1, .ref (zb o)), (2, .int (iI br)), (3, .int (iI n)), (4, .int (iI i)), (5, .int x)] [] (mm o σ) hs := by
  refine jw_iload (pc' := 49) jd_law_47 rfl rfl ?_
  refine jw_iconst (pc' := 50) jd_law_49 (v := iI 2) rfl rfl ?_
  refine jw_ishr (pc' := 51) jd_law_50 rfl rfl ?_
  refine zx_iconst (pc' := 52) (n := 4) jd_law_51 rfl ?_
  refine zy_callS (pc' := 55) hR hkc hks (q_below _ 4 (by omega)) jm_BranchworkLaw_below jq_872 jd_law_52 rfl rfl (Nat.le_of_ble_eq_true rfl) (by omega) (by decide) rfl (fun v9 sa q9 => ?_)
  obtain ⟨⟨p, hp, rfl⟩, ea⟩ := q9
  rw [ea]
  have ok1 := (h.1.2 p (by omega)).2.1
  have n1 := ok1.n
  have s1 : szF (w p) = -1 ∧ (w p).1 = 0 ∨ szF (w p) = (w p).2.1 ∧ ¬ (w p).1 = 0 := by
    unfold szF
    by_cases z : (w p).1 = 0
    · rw [if_pos z]; exact Or.inl ⟨rfl, z⟩
    · rw [if_neg z]; exact Or.inr ⟨rfl, z⟩
  have s0 := ok1.z
  refine jw_istore (pc' := 57) (lc' := [(0, _), (1, _), (2, _), (3, _), (4, _), (5, _), (6, _)]) jd_law_55 (Nat.le_of_ble_eq_true rfl) ⟨rfl, rfl, rfl, rfl, rfl, rfl, rfl, trivial⟩ rfl ?_
  refine jw_aload_n (pc' := 58) jd_law_57 rfl rfl rfl ?_
  refine zx_iconst (pc' := 59) (n := -1) jd_law_58 rfl ?_
  refine jw_iload (pc' := 61) jd_law_59 rfl rfl ?_
  refine zy_callV0 (pc' := 64) hR hkc hks (f_sizeW h p (by omega)) jm_Branchwork_size jq_776 jc_Branchwork jd_law_61 (mc_Branchwork _) rfl rfl (Nat.le_of_ble_eq_true rfl) (by omega) (by decide) rfl rfl ?_
  refine jw_istore (pc' := 66) (lc' := [(0, _), (1, _), (2, _), (3, _), (4, _), (5, _), (6, _), (7, _)]) jd_law_64 (Nat.le_of_ble_eq_true rfl) ⟨rfl, rfl, rfl, rfl, rfl, rfl, rfl, rfl, trivial⟩ rfl ?_
  refine jw_iload (pc' := 68) jd_law_66 rfl rfl ?_
  refine zx_bipush (pc' := 70) (n := 9) jd_law_68 (by decide +kernel) rfl ?_
  refine zy_callS (pc' := 73) hR hkc hks (q_below _ 9 (by omega)) jm_BranchworkLaw_below jq_872 jd_law_70 rfl rfl (Nat.le_of_ble_eq_true rfl) (by omega) (by decide) rfl (fun v9 sb q9 => ?_)
  obtain ⟨⟨kd, hkd, rfl⟩, eb⟩ := q9
  rw [eb]
  have nxt : jw_X (mi_lawN nm) o k kc ks 131 [(0, .ref o.2.2.2.2), (1, .ref (zb o)), (2, .int (iI br)), (3, .int (iI n)), (4, .int (iI i)), (5, .int x), (6, .int (iI p)), (7, .int (iI (szF (w p)))), (8, .int (iI kd))] [] (mm o σ) hs := law_131 hR hkc hks h hv hl hk h3 hJ i hi x p hp kd hkd p611
  refine jw_istore (pc' := 75) (lc' := [(0, _), (1, _), (2, _), (3, _), (4, _), (5, _), (6, _), (7, _), (8, _)]) jd_law_73 (Nat.le_of_ble_eq_true rfl) ⟨rfl, rfl, rfl, rfl, rfl, rfl, rfl, rfl, rfl, trivial⟩ rfl ?_
  refine jw_iload (pc' := 77) jd_law_75 rfl rfl ?_
  refine zx_iconst (pc' := 78) (n := 4) jd_law_77 rfl ?_
  refine zx_icmp_ge (tgt := 131) (pc' := 81) (by first | exact rg_iv _ _ _ | omega) (by first | exact rg_iv _ _ _ | omega) jd_law_78 (by decide) rfl (fun q1 => ?_) (fun q1 => ?_)
  · skip
    exact nxt
  refine jw_iload (pc' := 83) jd_law_81 rfl rfl ?_
  refine zx_bipush (pc' := 85) (n := 10) jd_law_83 (by decide +kernel) rfl ?_
  refine zx_icmp_ge (tgt := 131) (pc' := 88) (by first | exact rg_iv _ _ _ | omega) (by first | exact rg_iv _ _ _ | omega) jd_law_85 (by decide) rfl (fun q2 => ?_) (fun q2 => ?_)
  · skip
    exact nxt
  have h10 : (w p).2.1 < 10 := by
    rcases s1 with z | z
    · have := s0 z.2; omega
    · omega
  have em : max (0 : Int) (szF (w p)) + 1 = (((w p).2.1 + 1 : Nat) : Int) := by
    rcases s1 with z | z
    · have := s0 z.2; omega
    · omega
  refine jw_aload_n (pc' := 89) jd_law_88 rfl rfl rfl ?_
  refine jw_iload (pc' := 91) jd_law_89 rfl rfl ?_
  refine jw_iload (pc' := 93) jd_law_91 rfl rfl ?_
  refine jw_iconst (pc' := 94) jd_law_93 (v := iI 3) rfl rfl ?_
  refine jw_ishr (pc' := 95) jd_law_94 rfl rfl ?_
  refine zx_iconst (pc' := 96) (n := 0) jd_law_95 rfl ?_
  refine jw_iload (pc' := 98) jd_law_96 rfl rfl ?_
  refine zx_mmax (pc' := 101) (by first | exact rg_iv _ _ _ | omega) (by first | exact rg_iv _ _ _ | omega) hR jq_887 jd_law_98 (Nat.le_of_ble_eq_true rfl) (by omega) hkc hks rfl ?_
  refine zx_iconst (pc' := 102) (n := 1) jd_law_101 rfl ?_
  refine zx_iadd (pc' := 103) jd_law_102 rfl ?_
  rw [em]
  refine zy_callS (pc' := 106) hR hkc hks (q_below _ ((w p).2.1 + 1) (by omega)) jm_BranchworkLaw_below jq_872 jd_law_103 rfl rfl (Nat.le_of_ble_eq_true rfl) (by omega) (by decide) rfl (fun v9 sc q9 => ?_)
  obtain ⟨⟨pl, hpl, rfl⟩, ec⟩ := q9
  rw [ec]
  refine jw_iload (pc' := 108) jd_law_106 rfl rfl ?_
  refine jw_iconst (pc' := 109) jd_law_108 (v := iI 5) rfl rfl ?_
  refine jw_ishr (pc' := 110) jd_law_109 rfl rfl ?_
  refine zx_bipush (pc' := 112) (n := 6) jd_law_110 (by decide +kernel) rfl ?_
  refine zy_callS (pc' := 115) hR hkc hks (q_below _ 6 (by omega)) jm_BranchworkLaw_below jq_872 jd_law_112 rfl rfl (Nat.le_of_ble_eq_true rfl) (by omega) (by decide) rfl (fun v9 sd q9 => ?_)
  obtain ⟨⟨ln, hln, rfl⟩, ed⟩ := q9
  rw [ed]
  refine zy_callV (pc' := 118) hR hkc hks (f_put h p pl (ln : Int) (by omega) (by omega) (by omega) h10) jm_Branchwork_put jq_270 jc_Branchwork jd_law_115 (mc_Branchwork _) rfl rfl (Nat.le_of_ble_eq_true rfl) (by omega) (by decide) rfl (fun v9 se q9 => ?_)
  obtain ⟨rfl, w2, h2⟩ := q9
  refine zx_iconst (pc' := 119) (n := 0) jd_law_118 rfl ?_
  refine jw_iload (pc' := 121) jd_law_119 rfl rfl ?_
  refine zx_mmax (pc' := 124) (by first | exact rg_iv _ _ _ | omega) (by first | exact rg_iv _ _ _ | omega) hR jq_887 jd_law_121 (Nat.le_of_ble_eq_true rfl) (by omega) hkc hks rfl ?_
  refine zx_iconst (pc' := 125) (n := 1) jd_law_124 rfl ?_
  refine zx_iadd (pc' := 126) jd_law_125 rfl ?_
  rw [em]
  refine zx_icmp_eq (tgt := 611) (pc' := 129) (by first | exact rg_iv _ _ _ | omega) (by first | exact rg_iv _ _ _ | omega) jd_law_126 (by decide) rfl (fun q3 => ?_) (fun q3 => ?_)
  rotate_left
  · exfalso; omega
  refine jw_sub (lc' := [(0, _), (1, _), (2, _), (3, _), (4, _)]) ⟨rfl, rfl, rfl, rfl, rfl, trivial⟩ ?_
  exact p611 se n br ⟨w2, Ts, f, g, t, c, kp, l, tp, cu, mg, h2, hv, hl, hk, h3, hJ⟩
theorem law_15 (hR : jw_Rm k 10 604185 7289070) (hkc : kc ≤ 604185) (hks : ks ≤ 7289070) (hEnd : ∀ lc μ, jw_X (mi_lawN nm) o k kc ks 1099 lc [] μ hs) : ∀ (d i n br : Nat) (σ : zS), i + d = 30 → SL o σ n br → jw_X (mi_lawN nm) o k kc ks 15 [(0, .ref o.2.2.2.2), (1, .ref (zb o)), (2, .int (iI br)), (3, .int (iI n)), (4, .int (iI i))] [] (mm o σ) hs := by
  intro d
  induction d with
  | zero =>
    intro i n br σ hi hS
    obtain ⟨w, Ts, f, g, t, c, kp, l, tp, cu, mg, h, hv, hl, hk, h3, hJ⟩ := hS
    refine jw_iload (pc' := 17) jd_law_15 rfl rfl ?_
    refine zx_bipush (pc' := 19) (n := 30) jd_law_17 (by decide +kernel) rfl ?_
    refine zx_icmp_ge (tgt := 617) (pc' := 22) (by first | exact rg_iv _ _ _ | omega) (by first | exact rg_iv _ _ _ | omega) jd_law_19 (by decide) rfl (fun q => ?_) (fun q => ?_)
    rotate_left
    · exfalso; omega
    refine jw_sub (lc' := [(1, _), (3, _)]) ⟨rfl, rfl, trivial⟩ ?_
    exact law_617 hR hkc hks hEnd h hv hl hk
  | succ d ih =>
    intro i n br σ hi hS
    obtain ⟨w, Ts, f, g, t, c, kp, l, tp, cu, mg, h, hv, hl, hk, h3, hJ⟩ := hS
    have p611 : ∀ s n2 br2, SL o s n2 br2 → jw_X (mi_lawN nm) o k kc ks 611 [(0, .ref o.2.2.2.2), (1, .ref (zb o)), (2, .int (iI (br2 : Nat))), (3, .int (iI (n2 : Nat))), (4, .int (iI i))] [] (mm o s) hs := by
      intro s n2 br2 hS2
      refine zx_iinc (pc' := 614) (lc' := [(0, _), (1, _), (2, _), (3, _), (4, _)]) jd_law_611 rfl (Nat.le_of_ble_eq_true rfl) ⟨rfl, rfl, rfl, rfl, rfl, trivial⟩ rfl ?_
      refine jw_goto (tgt := 15) jd_law_614 (by decide) ?_
      exact ih (i + 1) n2 br2 s (by omega) hS2
    have p47 : ∀ x : Int32, jw_X (mi_lawN nm) o k kc ks 47 [(0, .ref o.2.2.2.2), (1, .ref (zb o)), (2, .int (iI br)), (3, .int (iI n)), (4, .int (iI i)), (5, .int x)] [] (mm o σ) hs := fun x => law_47 hR hkc hks h hv hl hk h3 hJ i (by omega) x p611
    refine jw_iload (pc' := 17) jd_law_15 rfl rfl ?_
    refine zx_bipush (pc' := 19) (n := 30) jd_law_17 (by decide +kernel) rfl ?_
    refine zx_icmp_ge (tgt := 617) (pc' := 22) (by first | exact rg_iv _ _ _ | omega) (by first | exact rg_iv _ _ _ | omega) jd_law_19 (by decide) rfl (fun q => ?_) (fun q => ?_)
    · exfalso; omega
    refine jw_aload_n (pc' := 23) jd_law_22 rfl rfl rfl ?_
    refine jw_iload (pc' := 25) jd_law_23 rfl rfl ?_
    refine zx_bipush (pc' := 27) (n := 16) jd_law_25 (by decide +kernel) rfl ?_
    refine zx_irem (pc' := 28) jd_law_27 (by omega) (by omega) rfl ?_
    rw [show (i : Int) % 16 = ((i % 16 : Nat) : Int) by omega]
    refine zy_callS (pc' := 31) hR hkc hks (q_cell (i % 16) (by omega)) jm_BranchworkLaw_cell jq_876 jd_law_28 rfl rfl (Nat.le_of_ble_eq_true rfl) (by omega) (by decide) rfl (fun v9 s1 q9 => ?_)
    obtain ⟨⟨v, rfl⟩, e1⟩ := q9
    rw [e1]
    refine jw_iload (pc' := 33) jd_law_31 rfl rfl ?_
    refine zx_bipush (pc' := 35) (n := 16) jd_law_33 (by decide +kernel) rfl ?_
    refine zx_idiv (pc' := 36) jd_law_35 (by omega) (by omega) rfl ?_
    refine zx_iconst (pc' := 37) (n := 3) jd_law_36 rfl ?_
    refine zx_imul (pc' := 38) jd_law_37 rfl ?_
    refine jw_ishr (pc' := 39) jd_law_38 rfl rfl ?_
    refine zx_bipush (pc' := 41) (n := 7) jd_law_39 (by decide +kernel) rfl ?_
    refine jw_iload (pc' := 43) jd_law_41 rfl rfl ?_
    refine zx_imul (pc' := 44) jd_law_43 rfl ?_
    refine jw_iadd (pc' := 45) jd_law_44 rfl rfl ?_
    refine jw_istore (pc' := 47) (lc' := [(0, _), (1, _), (2, _), (3, _), (4, _), (5, _)]) jd_law_45 (Nat.le_of_ble_eq_true rfl) ⟨rfl, rfl, rfl, rfl, rfl, rfl, trivial⟩ rfl ?_
    exact p47 _
end
