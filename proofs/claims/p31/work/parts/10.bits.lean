/-! sets of commits as bits -/
def bS (x : Int) : Nat := if 0 ≤ x ∧ x < 30 then 2 ^ x.toNat else 0
theorem z_bit0 (n j : Nat) : n &&& 2 ^ j = 0 ↔ n.testBit j = false := by
  constructor
  · intro h
    have h2 : (n &&& 2 ^ j).testBit j = false := by rw [h]; exact Nat.zero_testBit j
    rw [Nat.testBit_and, Nat.testBit_two_pow_self, Bool.and_true] at h2
    exact h2
  · intro h
    apply Nat.eq_of_testBit_eq
    intro i
    rw [Nat.testBit_and, Nat.zero_testBit, Nat.testBit_two_pow]
    by_cases e : j = i
    · rw [← e, h]; rfl
    · simp [e]
theorem bS_bit (x : Int) (j : Nat) : (bS x).testBit j = decide (x = j ∧ j < 30) := by
  unfold bS
  split
  · rw [Nat.testBit_two_pow]
    congr 1
    apply propext
    omega
  · rw [Nat.zero_testBit]
    symm
    rw [decide_eq_false_iff_not]
    omega
theorem bS_i {i : Nat} (h : i < 30) : bS (i : Int) = 2 ^ i := by unfold bS; rw [if_pos (by omega)]; rfl
theorem bS_in {i m : Nat} (h : i < 30) : bS (i : Int) &&& m = 0 ↔ m.testBit i = false := by rw [bS_i h, Nat.and_comm]; exact z_bit0 m i
/-- how many bits -/
def pcN (m : Nat) : Int := sm (fun j => if m.testBit j then 1 else 0) 30
theorem sm_le {f g : Nat → Int} : ∀ {n : Nat}, (∀ k, k < n → f k ≤ g k) → sm f n ≤ sm g n
  | 0, _ => Int.le_refl _
  | n + 1, h => by
    have h1 := sm_le (f := f) (g := g) (n := n) (fun k hk => h k (by omega))
    have h2 := h n (by omega)
    unfold sm
    omega
theorem sm_rng {f : Nat → Int} (hf : ∀ k, 0 ≤ f k ∧ f k ≤ 1) : ∀ n : Nat, 0 ≤ sm f n ∧ sm f n ≤ n
  | 0 => by unfold sm; omega
  | n + 1 => by
    have h1 := sm_rng hf n
    have h2 := hf n
    unfold sm
    omega
theorem sm_pos {f : Nat → Int} (hf : ∀ k, 0 ≤ f k ∧ f k ≤ 1) {j : Nat} (h1 : f j = 1) : ∀ {n : Nat}, j < n → 1 ≤ sm f n
  | 0, h => absurd h (by omega)
  | n + 1, h => by
    have g1 := sm_rng hf n
    have g2 := hf n
    unfold sm
    by_cases e : j = n
    · rw [← e, h1]; rw [e]; omega
    · have := sm_pos hf h1 (n := n) (by omega)
      omega
theorem sm_cut {f : Nat → Int} {m : Nat} (h0 : ∀ k, m ≤ k → f k = 0) : ∀ {n : Nat}, m ≤ n → sm f n = sm f m
  | 0, h => by rw [show m = 0 by omega]
  | n + 1, h => by
    by_cases e : m = n + 1
    · rw [e]
    · show sm f n + f n = sm f m
      rw [h0 n (by omega), sm_cut h0 (n := n) (by omega)]; omega
theorem pc_01 (m k : Nat) : 0 ≤ (if m.testBit k then (1 : Int) else 0) ∧ (if m.testBit k then (1 : Int) else 0) ≤ 1 := by split <;> omega
theorem pcN_rng (m : Nat) : 0 ≤ pcN m ∧ pcN m ≤ 30 := sm_rng (pc_01 m) 30
theorem pcN_le {m n : Nat} (h : ∀ j, j < 30 → m.testBit j = true → n.testBit j = true) : pcN m ≤ pcN n := sm_le fun k hk => by
  by_cases e : m.testBit k = true
  · rw [if_pos e, if_pos (h k hk e)]; omega
  · rw [if_neg e]; split <;> omega
theorem pcN_up {m c : Nat} (hc : c < 30) (h : ∀ j, m.testBit j = true → j ≤ c) (h1 : m.testBit c = true) : 1 ≤ pcN m ∧ pcN m ≤ c + 1 := by
  constructor
  · exact sm_pos (pc_01 m) (j := c) (by rw [if_pos h1]) hc
  · have e := sm_cut (f := fun j => if m.testBit j then (1 : Int) else 0) (m := c + 1) (fun k hk => by
      have : ¬ m.testBit k = true := fun z => by have := h k z; omega
      rw [if_neg this]) (n := 30) (by omega)
    have := (sm_rng (pc_01 m) (c + 1)).2
    unfold pcN
    rw [e]
    omega
/-- the ancestors of a set -/
def waF (f g : Nat → Int) : Nat → Nat → Nat
  | 0, m => m
  | i + 1, m => waF f g i (if m.testBit i then m ||| (bS (f i) ||| bS (g i)) else m)
def ancF (f g : Nat → Int) (c : Int) : Nat := waF f g 30 (bS c)
/-- parents come ahead -/
def PO (f g : Nat → Int) (n : Nat) : Prop := ∀ i, i < n → -1 ≤ f i ∧ f i < i ∧ -1 ≤ g i ∧ g i < i
theorem waF_spec {f g : Nat → Int} {n : Nat} (hP : PO f g n) : ∀ (i m : Nat), i ≤ 30 → (∀ j, m.testBit j = true → j < n) →
    (∀ j, m.testBit j = true → (waF f g i m).testBit j = true) ∧ (∀ j, i ≤ j → (waF f g i m).testBit j = m.testBit j) ∧ (∀ j, j < i → (waF f g i m).testBit j = true → ∀ q : Nat, (f j = q ∨ g j = q) → (waF f g i m).testBit q = true) ∧ ∀ j, (waF f g i m).testBit j = true → j < n
  | 0, m, _, h => ⟨fun _ h => h, fun _ _ => rfl, fun j hj => absurd hj (by omega), h⟩
  | i + 1, m, hi, h => by
    unfold waF
    by_cases e : m.testBit i = true
    · rw [if_pos e]
      have hin := h i e
      have hp := hP i hin
      have hb : ∀ j, (m ||| (bS (f i) ||| bS (g i))).testBit j = (m.testBit j || (decide (f i = j ∧ j < 30) || decide (g i = j ∧ j < 30))) := fun j => by
        rw [Nat.testBit_or, Nat.testBit_or, bS_bit, bS_bit]
      have hm1 : ∀ j, (m ||| (bS (f i) ||| bS (g i))).testBit j = true → j < n := fun j hj => by
        rw [hb] at hj
        simp only [Bool.or_eq_true, decide_eq_true_eq] at hj
        rcases hj with hj | hj | hj
        · exact h j hj
        · omega
        · omega
      obtain ⟨r1, r2, r3, r4⟩ := waF_spec hP i _ (by omega) hm1
      refine ⟨fun j hj => r1 j (by rw [hb, hj]; rfl), fun j hj => ?_, fun j hj hj2 q hq => ?_, r4⟩
      · rw [r2 j (by omega), hb]
        have e1 : decide (f i = j ∧ j < 30) = false := by rw [decide_eq_false_iff_not]; omega
        have e2 : decide (g i = j ∧ j < 30) = false := by rw [decide_eq_false_iff_not]; omega
        rw [e1, e2]; simp
      · by_cases e2 : j = i
        · apply r1
          rw [hb]
          simp only [Bool.or_eq_true, decide_eq_true_eq]
          rw [e2] at hq
          rcases hq with hq | hq
          · exact Or.inr (Or.inl ⟨hq, by omega⟩)
          · exact Or.inr (Or.inr ⟨hq, by omega⟩)
        · exact r3 j (by omega) hj2 q hq
    · rw [if_neg e]
      obtain ⟨r1, r2, r3, r4⟩ := waF_spec hP i m (by omega) h
      refine ⟨r1, fun j hj => r2 j (by omega), fun j hj hj2 q hq => ?_, r4⟩
      by_cases e2 : j = i
      · rw [e2, r2 i (by omega)] at hj2; exact absurd hj2 e
      · exact r3 j (by omega) hj2 q hq
theorem anc_self {f g : Nat → Int} {n c : Nat} (hP : PO f g n) (hc : c < n) (hn : n ≤ 30) : (ancF f g c).testBit c = true := (waF_spec hP 30 _ (by omega) (fun j hj => by rw [bS_bit, decide_eq_true_eq] at hj; omega)).1 c (by rw [bS_bit, decide_eq_true_eq]; omega)
theorem anc_le {f g : Nat → Int} {n c : Nat} (hP : PO f g n) (hc : c < n) (j : Nat) (hj : (ancF f g c).testBit j = true) : j ≤ c := by
  have hP2 : PO f g (c + 1) := fun i hi => hP i (by omega)
  have := (waF_spec hP2 30 (bS c) (by omega) (fun j hj => by rw [bS_bit, decide_eq_true_eq] at hj; omega)).2.2.2 j hj
  omega
theorem anc_par {f g : Nat → Int} {n c : Nat} (hP : PO f g n) (hc : c < n) (hn : n ≤ 30) (j : Nat) (hj : (ancF f g c).testBit j = true) (q : Nat) (hq : f j = q ∨ g j = q) : (ancF f g c).testBit q = true := (waF_spec hP 30 _ (by omega) (fun j hj => by rw [bS_bit, decide_eq_true_eq] at hj; omega)).2.2.1 j (by have := anc_le hP hc j hj; omega) hj q hq
theorem anc_none (f g : Nat → Int) : ancF f g (-1) = 0 := by
  unfold ancF
  have : ∀ i, waF f g i 0 = 0 := by
    intro i
    induction i with
    | zero => rfl
    | succ i ih => unfold waF; rw [if_neg (by simp)]; exact ih
  rw [show bS (-1) = 0 from rfl]
  exact this 30
/-- the greatest number in a set -/
def hiB (m : Nat) : Nat → Int
  | 0 => -1
  | i + 1 => if m.testBit i then (i : Int) else hiB m i
theorem hiB_spec (m : Nat) : ∀ n, (hiB m n = -1 ∧ ∀ j, j < n → m.testBit j = false) ∨ ∃ i, i < n ∧ hiB m n = i ∧ m.testBit i = true ∧ ∀ j, i < j → j < n → m.testBit j = false
  | 0 => Or.inl ⟨rfl, fun j hj => absurd hj (by omega)⟩
  | n + 1 => by
    unfold hiB
    by_cases e : m.testBit n = true
    · rw [if_pos e]
      exact Or.inr ⟨n, by omega, rfl, e, fun j h1 h2 => absurd h2 (by omega)⟩
    · rw [if_neg e]
      rcases hiB_spec m n with ⟨h1, h2⟩ | ⟨i, h1, h2, h3, h4⟩
      · refine Or.inl ⟨h1, fun j hj => ?_⟩
        by_cases q : j = n
        · rw [q]; exact Bool.eq_false_iff.mpr e
        · exact h2 j (by omega)
      · refine Or.inr ⟨i, by omega, h2, h3, fun j hj hj2 => ?_⟩
        by_cases q : j = n
        · rw [q]; exact Bool.eq_false_iff.mpr e
        · exact h4 j hj (by omega)
theorem hiB_eq {m n i : Nat} (h1 : i < n) (h3 : m.testBit i = true) (h4 : ∀ j, i < j → j < n → m.testBit j = false) : hiB m n = i := by
  rcases hiB_spec m n with ⟨-, g⟩ | ⟨j, g1, g2, g3, g4⟩
  · rw [g i h1] at h3; cases h3
  · by_cases q : i < j
    · rw [h4 j q g1] at g3; cases g3
    · by_cases q2 : j < i
      · rw [g4 i q2 h1] at h3; cases h3
      · rw [g2]; omega
def caF (f g : Nat → Int) (a b : Int) : Int := hiB (ancF f g a &&& ancF f g b) 30
theorem ca_comm (f g : Nat → Int) (a b : Int) : caF f g a b = caF f g b a := by unfold caF; rw [Nat.and_comm]
theorem ca_rng (f g : Nat → Int) (a b : Int) : -1 ≤ caF f g a b ∧ caF f g a b < 30 := by
  unfold caF
  rcases hiB_spec (ancF f g a &&& ancF f g b) 30 with ⟨h, -⟩ | ⟨i, h1, h2, -⟩ <;> omega
theorem ca_le {f g : Nat → Int} {n a b : Nat} (hP : PO f g n) (ha : a < n) (hb : b < n) : caF f g a b ≤ a ∧ caF f g a b ≤ b := by
  unfold caF
  rcases hiB_spec (ancF f g a &&& ancF f g b) 30 with ⟨h, -⟩ | ⟨i, h1, h2, h3, -⟩
  · omega
  · rw [Nat.testBit_and, Bool.and_eq_true] at h3
    have := anc_le hP ha i h3.1
    have := anc_le hP hb i h3.2
    omega
/-- the base of a commit and of one that it stands on is that one -/
theorem ca_anc {f g : Nat → Int} {n a b : Nat} (hP : PO f g n) (hn : n ≤ 30) (ha : a < n) (h : (ancF f g b).testBit a = true) : caF f g a b = a := by
  unfold caF
  refine hiB_eq (by omega) ?_ (fun j hj hj2 => ?_)
  · rw [Nat.testBit_and, anc_self hP ha hn, h]; rfl
  · rw [Nat.testBit_and]
    have : (ancF f g a).testBit j = false := Bool.eq_false_iff.mpr (fun z => by have := anc_le hP ha j z; omega)
    rw [this]; rfl
/-- the different trees of a set -/
def diF (t : Nat → Int) (m : Nat) : Nat → Nat
  | 0 => 0
  | i + 1 => if m.testBit i then diF t m i ||| bS (t i) else diF t m i
theorem diF_spec (t : Nat → Int) (m j : Nat) : ∀ n, (diF t m n).testBit j = true ↔ ∃ i, i < n ∧ m.testBit i = true ∧ t i = j ∧ j < 30
  | 0 => by unfold diF; simp
  | n + 1 => by
    unfold diF
    have ih := diF_spec t m j n
    by_cases e : m.testBit n = true
    · rw [if_pos e, Nat.testBit_or, Bool.or_eq_true, ih, bS_bit, decide_eq_true_eq]
      constructor
      · rintro (⟨i, h1, h2⟩ | h)
        · exact ⟨i, by omega, h2⟩
        · exact ⟨n, by omega, e, h⟩
      · rintro ⟨i, h1, h2, h3⟩
        by_cases q : i = n
        · rw [q] at h3; exact Or.inr h3
        · exact Or.inl ⟨i, by omega, h2, h3⟩
    · rw [if_neg e, ih]
      constructor
      · rintro ⟨i, h1, h2⟩
        exact ⟨i, by omega, h2⟩
      · rintro ⟨i, h1, h2, h3⟩
        by_cases q : i = n
        · rw [q] at h2; exact absurd h2 e
        · exact ⟨i, by omega, h2, h3⟩
/-- the different contents of a set -/
def metP (c : Nat → Int) (m j : Nat) : Prop := ∃ i, i < 30 ∧ m.testBit i = true ∧ ∃ p, p < 12 ∧ c (i * 12 + p) = j
noncomputable def metI (c : Nat → Int) (m j : Nat) : Int := @ite _ (metP c m j) (Classical.propDecidable _) 1 0
theorem metI_01 (c : Nat → Int) (m j : Nat) : 0 ≤ metI c m j ∧ metI c m j ≤ 1 := by unfold metI; split <;> omega
theorem metI_le {c : Nat → Int} {m n : Nat} (h : ∀ j, j < 30 → m.testBit j = true → n.testBit j = true) (j : Nat) : metI c m j ≤ metI c n j := by
  by_cases e : metP c m j
  · obtain ⟨i, h1, h2, h3⟩ := e
    have e2 : metP c n j := ⟨i, h1, h i h1 h2, h3⟩
    unfold metI
    rw [if_pos ⟨i, h1, h2, h3⟩, if_pos e2]; omega
  · have := (metI_01 c n j).1
    unfold metI at this ⊢
    rw [if_neg e]; exact this
noncomputable def obF (t c : Nat → Int) (m : Nat) : Int := pcN m + pcN (diF t m 30) + sm (metI c m) 360
theorem obF_le {t c : Nat → Int} {m n : Nat} (h : ∀ j, j < 30 → m.testBit j = true → n.testBit j = true) : obF t c m ≤ obF t c n := by
  have h1 := pcN_le h
  have h2 : pcN (diF t m 30) ≤ pcN (diF t n 30) := pcN_le fun j hj hd => by
    obtain ⟨i, g1, g2, g3⟩ := (diF_spec t m j 30).mp hd
    exact (diF_spec t n j 30).mpr ⟨i, g1, h i g1 g2, g3⟩
  have h3 : sm (metI c m) 360 ≤ sm (metI c n) 360 := sm_le fun k _ => metI_le h k
  unfold obF
  omega
theorem obF_rng (t c : Nat → Int) (m : Nat) : 0 ≤ obF t c m ∧ obF t c m ≤ 420 := by
  have h1 := pcN_rng m
  have h2 := pcN_rng (diF t m 30)
  have h3 := sm_rng (metI_01 c m) 360
  unfold obF
  omega
