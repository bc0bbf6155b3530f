/-! what follows of the merges' and matches' own words -/
def cfP (M : zM) : Prop := ∀ j, j < M.2.1 → 1 ≤ (M.2.2 j).1 ∧ (M.2.2 j).1 ≤ 5 ∧ ∃ p : Nat, p < 12 ∧ (M.2.2 j).2 = p ∧ ¬ (M.1 p).1 = 0
theorem cf_tell {R : zT} {l : zK} {x : Int} {p : Nat} (h : cfP (R, l)) (hx : 1 ≤ x ∧ x ≤ 5) (hp : p < 12) (h0 : ¬ (R p).1 = 0) : cfP (R, kTell l x p) := by
  intro j hj
  unfold kTell at hj ⊢
  by_cases e : l.1 < 24
  · rw [if_pos e] at hj ⊢
    dsimp only at hj ⊢
    by_cases q : j = l.1
    · rw [if_pos q]; exact ⟨hx.1, hx.2, p, hp, rfl, h0⟩
    · rw [if_neg q]; exact h j (by show j < l.1; omega)
  · rw [if_neg e] at hj ⊢; exact h j hj
theorem cf_tU {R : zT} {l : zK} {v : zV} {p : Nat} (h : cfP (R, l)) (hv : ¬ v.1 = 0) : cfP (tU R p v, l) := by
  intro j hj
  obtain ⟨h1, h2, q, h3, h4, h5⟩ := h j hj
  refine ⟨h1, h2, q, h3, h4, ?_⟩
  dsimp only
  unfold tU
  split
  · exact hv
  · exact h5
theorem mBring_cf {v : zV} {p : Nat} {M : zM} (h : cfP M) (hv : ¬ v.1 = 0) (hp : p < 12) : cfP (mBring v p M).2 ∧ ¬ ((mBring v p M).2.1 p).1 = 0 := by
  unfold mBring
  split
  · refine ⟨cf_tU h hv, ?_⟩
    dsimp only
    unfold tU
    rw [if_pos rfl]; exact hv
  · rename_i q
    exact ⟨cf_tell h (by omega) hp q, q⟩
theorem mLeft_cf {A K : zT} {p ik : Nat} {M : zM} (h : cfP M) (hik : ik < 12) (hk : ¬ (K ik).1 = 0) : cfP (mLeft A K p ik M) := by
  have h2 := mBring_cf h hk hik
  unfold mLeft
  split
  · exact h
  · split
    · exact h2.1
    · exact cf_tell h2.1 (by omega) hik h2.2
theorem mBoth_cf {A B C : zT} {p io iq to : Nat} {M : zM} (h : cfP M) (hto : to < 12) (h1 : (blF (A p) (B io) (C iq)).1.1 = 1) : cfP (mBoth A B C p io iq M to) := by
  have hv : ¬ (blF (A p) (B io) (C iq)).1.1 = 0 := by omega
  have hu : ¬ (tU M.1 to (blF (A p) (B io) (C iq)).1 to).1 = 0 := by unfold tU; rw [if_pos rfl]; exact hv
  have ha : cfP (tU M.1 to (blF (A p) (B io) (C iq)).1, M.2) := cf_tU h hv
  have hb : cfP (tU M.1 to (blF (A p) (B io) (C iq)).1, if ¬ iq = to ∧ ¬ iq = p then kTell M.2 2 to else M.2) := by
    split
    · exact cf_tell ha (by omega) hto hu
    · exact ha
  unfold mBoth
  split
  · by_cases q : (blF (A p) (B io) (C iq)).2.1 = 0
    · rw [if_pos q]; exact hb
    · rw [if_neg q]; exact cf_tell hb (by omega) hto hu
  · rename_i q
    exact cf_tell h (by omega) hto q
theorem mFile_cf {A B C : zT} (hA : ∀ p, p < 12 → okV (A p)) (hB : ∀ p, p < 12 → okV (B p)) (hC : ∀ p, p < 12 → okV (C p)) {p : Nat} {M : zM} (h : cfP M) (hp : p < 12) : cfP (mFile A B C (trF A B).1 (trF A C).1 p M) := by
  obtain ⟨u1, -, -, -, -, -, u7, -⟩ := trF_P hA hB
  obtain ⟨w1, -, -, -, -, -, w7, -⟩ := trF_P hA hC
  have r1 := u1 p
  have r2 := w1 p
  unfold mFile
  split
  · split
    · exact h
    · exact mLeft_cf h (by omega) (w7 p hp _ (by omega))
  · split
    · exact mLeft_cf h (by omega) (u7 p hp _ (by omega))
    · refine mBoth_cf h (by split <;> omega) ?_
      exact (blF_Q (hA p hp) (hB _ (by omega)) (hC _ (by omega))).2.1
theorem mgF_cf {A B C : zT} (hA : ∀ p, p < 12 → okV (A p)) (hB : ∀ p, p < 12 → okV (B p)) (hC : ∀ p, p < 12 → okV (C p)) : cfP (mgF A B C) := by
  have a : cfP (mgA A B C) := it_inv (N := 12) (Q := fun _ M => cfP M) (fun i M hi h => by
    unfold mg1
    split
    · exact h
    · exact mFile_cf hA hB hC h hi) 12 0 _ rfl (fun j hj => absurd hj (by simp))
  have b : cfP (mgB A B C).1 := it_inv (N := 12) (Q := fun _ (u : zM × (Nat → Int)) => cfP u.1) (fun i u hi h => by
    unfold mg2
    split
    · exact h
    · rename_i q
      refine (mBring_cf h (fun z => q ?_) hi).1
      unfold mNew; rw [if_pos z]) 12 0 (mgA A B C, fun _ => 0) rfl a
  exact it_inv (N := 12) (Q := fun _ M => cfP M) (fun i M hi h => by
    unfold mg3
    split
    · exact h
    · rename_i q
      split
      · refine (mBring_cf h (fun z => q ?_) hi).1
        unfold mNew; rw [if_pos z]
      · have h1 := (blF_Q v0_ok (hB i hi) (hC i hi)).2.1
        have hv : ¬ (blF v0 (B i) (C i)).1.1 = 0 := by omega
        unfold mJoin
        split
        · exact h
        · exact cf_tell (cf_tU h hv) (by omega) hi (by unfold tU; rw [if_pos rfl]; exact hv)) 12 0 _ rfl b
/-- a tree merged with itself: nothing is told -/
theorem mgF_self {A : zT} (hA : ∀ p, p < 12 → okV (A p)) : (mgF A A A).2.1 = 0 := by
  obtain ⟨u1, -, -, -, -, -, u7, u8, -⟩ := trF_P hA hA
  have nw : ∀ p, mNew A A (trF A A).2.1 p = 0 := fun p => by
    unfold mNew
    by_cases q : (A p).1 = 0
    · rw [if_pos q]
    · rw [if_neg q, if_neg q]
  have a : (mgA A A A).2.1 = 0 := (it_inv (N := 12) (Q := fun i (M : zM) => M.2.1 = 0 ∧ ∀ q, i ≤ q → (M.1 q).1 = 0) (fun i M hi h => by
    unfold mg1
    by_cases q : (A i).1 = 0
    · rw [if_pos q]; exact ⟨h.1, fun p hp => h.2 p (by omega)⟩
    · rw [if_neg q]
      have e := u8 i hi q q
      unfold mFile
      rw [if_neg (by omega), if_neg (by omega), if_pos e, e]
      unfold mBoth
      simp only [Int.toNat_natCast]
      rw [if_pos (h.2 i (by omega)), if_pos (blF_same (A i) (A i)), if_neg (fun z : ¬ True ∧ ¬ True => z.1 trivial)]
      refine ⟨h.1, fun p hp => ?_⟩
      dsimp only
      unfold tU
      rw [if_neg (by omega)]
      exact h.2 p (by omega)) 12 0 (fun _ => v0, (0, fun _ => (0, 0))) rfl ⟨rfl, fun _ _ => rfl⟩).1
  have b : (mgB A A A).1.2.1 = 0 := it_inv (N := 12) (Q := fun _ (u : zM × (Nat → Int)) => u.1.2.1 = 0) (fun i u hi h => by
    unfold mg2
    rw [if_pos (nw i)]; exact h) 12 0 (mgA A A A, fun _ => 0) rfl a
  exact it_inv (N := 12) (Q := fun _ (M : zM) => M.2.1 = 0) (fun i M hi h => by
    unfold mg3
    rw [if_pos (nw i)]; exact h) 12 0 _ rfl b
/-- the nearness of a content with itself -/
theorem msJ_diag {a : zV} {i : Nat} (hi : i < a.2.1) : ∀ (j : Nat) {T : Nat → Int}, j ≤ 10 → (∀ k, i + 1 ≤ k → k ≤ a.2.1 → T (12 * k) = a.2.1 - k) → (j ≤ i → T (12 * i) = a.2.1 - i) → ∀ k, i ≤ k → k ≤ a.2.1 → msJ a a i j T (12 * k) = a.2.1 - k
  | 0, T, _, h1, h2 => fun k hk hk2 => by
    by_cases e : k = i
    · rw [e]; exact h2 (by omega)
    · exact h1 k (by omega) hk2
  | j + 1, T, hj, h1, h2 => by
    unfold msJ
    refine msJ_diag hi j (by omega) (fun k hk hk2 => ?_) (fun hji => ?_)
    · unfold msS; rw [if_neg (by omega)]; exact h1 k hk hk2
    · by_cases e : j = i
      · unfold msS
        rw [if_pos (by omega), e, if_pos rfl, show i * 11 + i + 12 = 12 * (i + 1) by omega, h1 (i + 1) (by omega) (by omega)]
        omega
      · unfold msS; rw [if_neg (by omega)]; exact h2 (by omega)
theorem msI_diag {a : zV} (ha : a.2.1 ≤ 10) : ∀ (i : Nat) {T : Nat → Int}, i ≤ a.2.1 → (∀ k, i ≤ k → k ≤ a.2.1 → T (12 * k) = a.2.1 - k) → msI a a i T 0 = a.2.1
  | 0, T, _, h => by
    have := h 0 (by omega) (by omega)
    unfold msI
    rw [show (0 : Nat) = 12 * 0 from rfl, this]; simp
  | i + 1, T, hi, h => by
    unfold msI
    exact msI_diag ha i (by omega) (msJ_diag (by omega) a.2.1 ha h (fun z => absurd z (by omega)))
theorem near_self {a : zV} (ha : okV a) : nearV a a = 100 := by
  have hn := ha.n
  unfold nearV
  by_cases e : a.2.1 + a.2.1 = 0
  · rw [if_pos e]
  · rw [if_neg e]
    have h : msT a a 0 = a.2.1 := msI_diag hn a.2.1 (Nat.le_refl _) (fun k hk hk2 => by show (0 : Int) = _; omega)
    rw [h, show (200 : Int) * a.2.1 = 100 * ((a.2.1 : Int) + a.2.1) by omega, Int.mul_ediv_cancel _ (by omega)]
theorem moved_we {A B : zT} (hA : ∀ p, p < 12 → okV (A p)) (hB : ∀ p, p < 12 → okV (B p)) {p : Nat} (hp : p < 12) : moved (trF A B).1 p = if 0 ≤ weF A B p ∧ ¬ weF A B p = p then 1 else 0 := by
  obtain ⟨u1, -, -, -, -, u6, -⟩ := trF_P hA hB
  unfold moved weF
  by_cases q : (A p).1 = 0
  · rw [if_pos q, u6 p hp q, if_neg (by omega), if_neg (by omega)]
  · rw [if_neg q]
theorem changes_sum {A B : zT} (hA : ∀ p, p < 12 → okV (A p)) (hB : ∀ p, p < 12 → okV (B p)) : (trF A B).2.2 = sm (fun p => if 0 ≤ weF A B p ∧ ¬ weF A B p = p then 1 else 0) 12 := by
  rw [(trF_P hA hB).2.2.2.2.1]
  exact sm_congr (fun k hk => moved_we hA hB hk)
theorem we_self {A : zT} (hA : ∀ p, p < 12 → okV (A p)) {p : Nat} (hp : p < 12) (h0 : ¬ (A p).1 = 0) : weF A A p = p := by
  unfold weF
  rw [if_neg h0]
  exact (trF_P hA hA).2.2.2.2.2.2.2.1 p hp h0 h0
theorem we_rng {A B : zT} (hA : ∀ p, p < 12 → okV (A p)) (hB : ∀ p, p < 12 → okV (B p)) (p : Nat) : -2 ≤ weF A B p ∧ weF A B p ≤ 11 := by
  have := (trF_P hA hB).1 p
  unfold weF
  split <;> omega
theorem we_there {A B : zT} (hA : ∀ p, p < 12 → okV (A p)) (hB : ∀ p, p < 12 → okV (B p)) {p q : Nat} (hp : p < 12) (h : weF A B p = q) : q < 12 ∧ ¬ (B q).1 = 0 := by
  have hr := we_rng hA hB p
  refine ⟨by omega, ?_⟩
  unfold weF at h
  split at h
  · omega
  · exact (trF_P hA hB).2.2.2.2.2.2.1 p hp q h
theorem we_out {A B : zT} (hA : ∀ p, p < 12 → okV (A p)) (hB : ∀ p, p < 12 → okV (B p)) (p : Nat) : weF A B p = -2 ↔ (A p).1 = 0 := by
  have := (trF_P hA hB).1 p
  unfold weF
  by_cases q : (A p).1 = 0
  · rw [if_pos q]; simp [q]
  · rw [if_neg q]
    constructor
    · intro z; omega
    · intro z; exact absurd z q
