theorem jd_Integer_bitCount_0 : decode mi_Integer_bitCount.2.1 0 = .ok (.iload_n 0, 1) := by decide +kernel
theorem jd_Integer_bitCount_1 : decode mi_Integer_bitCount.2.1 1 = .ok (.iload_n 0, 1) := by decide +kernel
theorem jd_Integer_bitCount_2 : decode mi_Integer_bitCount.2.1 2 = .ok (.iconst 1, 1) := by decide +kernel
theorem jd_Integer_bitCount_3 : decode mi_Integer_bitCount.2.1 3 = .ok (.iushr, 1) := by decide +kernel
theorem jd_Integer_bitCount_4 : decode mi_Integer_bitCount.2.1 4 = .ok (.ldc_w 265, 3) := by decide +kernel
theorem jd_Integer_bitCount_7 : decode mi_Integer_bitCount.2.1 7 = .ok (.iand, 1) := by decide +kernel
theorem jd_Integer_bitCount_8 : decode mi_Integer_bitCount.2.1 8 = .ok (.isub, 1) := by decide +kernel
theorem jd_Integer_bitCount_9 : decode mi_Integer_bitCount.2.1 9 = .ok (.istore_n 0, 1) := by decide +kernel
theorem jd_Integer_bitCount_10 : decode mi_Integer_bitCount.2.1 10 = .ok (.iload_n 0, 1) := by decide +kernel
theorem jd_Integer_bitCount_11 : decode mi_Integer_bitCount.2.1 11 = .ok (.ldc_w 266, 3) := by decide +kernel
theorem jd_Integer_bitCount_14 : decode mi_Integer_bitCount.2.1 14 = .ok (.iand, 1) := by decide +kernel
theorem jd_Integer_bitCount_15 : decode mi_Integer_bitCount.2.1 15 = .ok (.iload_n 0, 1) := by decide +kernel
theorem jd_Integer_bitCount_16 : decode mi_Integer_bitCount.2.1 16 = .ok (.iconst 2, 1) := by decide +kernel
theorem jd_Integer_bitCount_17 : decode mi_Integer_bitCount.2.1 17 = .ok (.iushr, 1) := by decide +kernel
theorem jd_Integer_bitCount_18 : decode mi_Integer_bitCount.2.1 18 = .ok (.ldc_w 266, 3) := by decide +kernel
theorem jd_Integer_bitCount_21 : decode mi_Integer_bitCount.2.1 21 = .ok (.iand, 1) := by decide +kernel
theorem jd_Integer_bitCount_22 : decode mi_Integer_bitCount.2.1 22 = .ok (.iadd, 1) := by decide +kernel
theorem jd_Integer_bitCount_23 : decode mi_Integer_bitCount.2.1 23 = .ok (.istore_n 0, 1) := by decide +kernel
theorem jd_Integer_bitCount_24 : decode mi_Integer_bitCount.2.1 24 = .ok (.iload_n 0, 1) := by decide +kernel
theorem jd_Integer_bitCount_25 : decode mi_Integer_bitCount.2.1 25 = .ok (.iload_n 0, 1) := by decide +kernel
theorem jd_Integer_bitCount_26 : decode mi_Integer_bitCount.2.1 26 = .ok (.iconst 4, 1) := by decide +kernel
theorem jd_Integer_bitCount_27 : decode mi_Integer_bitCount.2.1 27 = .ok (.iushr, 1) := by decide +kernel
theorem jd_Integer_bitCount_28 : decode mi_Integer_bitCount.2.1 28 = .ok (.iadd, 1) := by decide +kernel
theorem jd_Integer_bitCount_29 : decode mi_Integer_bitCount.2.1 29 = .ok (.ldc_w 267, 3) := by decide +kernel
theorem jd_Integer_bitCount_32 : decode mi_Integer_bitCount.2.1 32 = .ok (.iand, 1) := by decide +kernel
theorem jd_Integer_bitCount_33 : decode mi_Integer_bitCount.2.1 33 = .ok (.istore_n 0, 1) := by decide +kernel
theorem jd_Integer_bitCount_34 : decode mi_Integer_bitCount.2.1 34 = .ok (.iload_n 0, 1) := by decide +kernel
theorem jd_Integer_bitCount_35 : decode mi_Integer_bitCount.2.1 35 = .ok (.iload_n 0, 1) := by decide +kernel
theorem jd_Integer_bitCount_36 : decode mi_Integer_bitCount.2.1 36 = .ok (.bipush 8, 2) := by decide +kernel
theorem jd_Integer_bitCount_38 : decode mi_Integer_bitCount.2.1 38 = .ok (.iushr, 1) := by decide +kernel
theorem jd_Integer_bitCount_39 : decode mi_Integer_bitCount.2.1 39 = .ok (.iadd, 1) := by decide +kernel
theorem jd_Integer_bitCount_40 : decode mi_Integer_bitCount.2.1 40 = .ok (.istore_n 0, 1) := by decide +kernel
theorem jd_Integer_bitCount_41 : decode mi_Integer_bitCount.2.1 41 = .ok (.iload_n 0, 1) := by decide +kernel
theorem jd_Integer_bitCount_42 : decode mi_Integer_bitCount.2.1 42 = .ok (.iload_n 0, 1) := by decide +kernel
theorem jd_Integer_bitCount_43 : decode mi_Integer_bitCount.2.1 43 = .ok (.bipush 16, 2) := by decide +kernel
theorem jd_Integer_bitCount_45 : decode mi_Integer_bitCount.2.1 45 = .ok (.iushr, 1) := by decide +kernel
theorem jd_Integer_bitCount_46 : decode mi_Integer_bitCount.2.1 46 = .ok (.iadd, 1) := by decide +kernel
theorem jd_Integer_bitCount_47 : decode mi_Integer_bitCount.2.1 47 = .ok (.istore_n 0, 1) := by decide +kernel
theorem jd_Integer_bitCount_48 : decode mi_Integer_bitCount.2.1 48 = .ok (.iload_n 0, 1) := by decide +kernel
theorem jd_Integer_bitCount_49 : decode mi_Integer_bitCount.2.1 49 = .ok (.bipush 63, 2) := by decide +kernel
theorem jd_Integer_bitCount_51 : decode mi_Integer_bitCount.2.1 51 = .ok (.iand, 1) := by decide +kernel
theorem jd_Integer_bitCount_52 : decode mi_Integer_bitCount.2.1 52 = .ok (.ireturn, 1) := by decide +kernel
/-! how many bits: the sum by halves -/
def pM (c : Nat) : Nat → Nat
  | 0 => 0
  | k + 1 => c + 16 * pM c k
def pH (f : Nat → Nat) : Nat → Nat → Nat
  | 0, _ => 0
  | k + 1, m => f (m % 16) + 16 * pH f k (m / 16)
theorem pM_s (c k : Nat) : pM c (k + 1) = c + 16 * pM c k := rfl
theorem pH_s (f : Nat → Nat) (k m : Nat) : pH f (k + 1) m = f (m % 16) + 16 * pH f k (m / 16) := rfl
theorem p_and {a c x y : Nat} (ha : a < 16) (hc : c < 16) : (a + 16 * x) &&& (c + 16 * y) = (a &&& c) + 16 * (x &&& y) := by
  have h1 : ((a + 16 * x) &&& (c + 16 * y)) % 16 = (a &&& c) := by
    have h := Nat.and_mod_two_pow (a := a + 16 * x) (b := c + 16 * y) (n := 4)
    rw [show (2 : Nat) ^ 4 = 16 from rfl] at h
    rw [h, show (a + 16 * x) % 16 = a by omega, show (c + 16 * y) % 16 = c by omega]
  have h2 : ((a + 16 * x) &&& (c + 16 * y)) / 16 = (x &&& y) := by
    have h := Nat.and_div_two_pow (a := a + 16 * x) (b := c + 16 * y) (n := 4)
    rw [show (2 : Nat) ^ 4 = 16 from rfl] at h
    rw [h, show (a + 16 * x) / 16 = x by omega, show (c + 16 * y) / 16 = y by omega]
  omega
def p1 (n : Nat) : Nat := n - ((n / 2) &&& 5)
def p2 (n : Nat) : Nat := n % 4 + n / 4
def p4 (n : Nat) : Nat := n % 2 + n / 2 % 2 + n / 4 % 2 + n / 8
theorem p1_a : ∀ n, n < 16 → ∀ r, r < 2 → ((n / 2 + 8 * r) &&& 5) = ((n / 2) &&& 5) ∧ ((n / 2) &&& 5) ≤ n ∧ p1 n < 16 := by decide +kernel
theorem p2_a : ∀ n, n < 16 → (n &&& 3) = n % 4 ∧ ∀ r, r < 4 → ((n / 4 + 4 * r) &&& 3) = n / 4 := by decide +kernel
theorem p4_a : ∀ n, n < 16 → p2 (p1 n) = p4 n ∧ p4 n ≤ 4 := by decide +kernel
theorem pS1 : ∀ (k m : Nat), m < 16 ^ k → (((m / 2) &&& pM 5 k) ≤ m) ∧ m - ((m / 2) &&& pM 5 k) = pH p1 k m
  | 0, m, h => by
    have : m = 0 := by simpa using h
    subst this
    exact ⟨by simp [pM], by simp [pM, pH]⟩
  | k + 1, m, h => by
    have h16 : (16 : Nat) ^ (k + 1) = 16 * 16 ^ k := by rw [Nat.pow_succ, Nat.mul_comm]
    have ih := pS1 k (m / 16) (by omega)
    have e : m / 2 = (m % 16 / 2 + 8 * (m / 16 % 2)) + 16 * (m / 16 / 2) := by omega
    have a := p1_a (m % 16) (by omega) (m / 16 % 2) (by omega)
    have e2 : (m / 2) &&& pM 5 (k + 1) = ((m % 16 / 2) &&& 5) + 16 * ((m / 16 / 2) &&& pM 5 k) := by
      rw [pM_s, e, p_and (by omega) (by omega), a.1]
    rw [e2, pH_s, ← ih.2]
    have := a.2.1
    have := ih.1
    unfold p1
    omega
theorem pS2 : ∀ (k x : Nat), x < 16 ^ k → (x &&& pM 3 k) + ((x / 4) &&& pM 3 k) = pH p2 k x
  | 0, x, h => by
    have : x = 0 := by simpa using h
    subst this
    simp [pM, pH]
  | k + 1, x, h => by
    have h16 : (16 : Nat) ^ (k + 1) = 16 * 16 ^ k := by rw [Nat.pow_succ, Nat.mul_comm]
    have ih := pS2 k (x / 16) (by omega)
    have a := p2_a (x % 16) (by omega)
    have e : x / 4 = (x % 16 / 4 + 4 * (x / 16 % 4)) + 16 * (x / 16 / 4) := by omega
    have e1 : x &&& pM 3 (k + 1) = x % 16 % 4 + 16 * ((x / 16) &&& pM 3 k) := by
      have e9 : x &&& pM 3 (k + 1) = (x % 16 + 16 * (x / 16)) &&& (3 + 16 * pM 3 k) := by rw [pM_s, show x % 16 + 16 * (x / 16) = x by omega]
      rw [e9, p_and (by omega) (by omega), a.1]
    have e2 : (x / 4) &&& pM 3 (k + 1) = x % 16 / 4 + 16 * ((x / 16 / 4) &&& pM 3 k) := by
      rw [pM_s, e, p_and (by omega) (by omega), a.2 _ (by omega)]
    rw [e1, e2, pH_s, ← ih, show p2 (x % 16) = x % 16 % 4 + x % 16 / 4 from rfl]
    omega
theorem pH_lt {f : Nat → Nat} (hf : ∀ n, n < 16 → f n < 16) : ∀ k m, pH f k m < 16 ^ k
  | 0, _ => by show 0 < 1; omega
  | k + 1, m => by
    have h16 : (16 : Nat) ^ (k + 1) = 16 * 16 ^ k := by rw [Nat.pow_succ, Nat.mul_comm]
    have ih := pH_lt hf k (m / 16)
    have := hf (m % 16) (by omega)
    rw [pH_s]
    omega
theorem pH_pH {f g h : Nat → Nat} (hf : ∀ n, n < 16 → f n < 16) (e : ∀ n, n < 16 → g (f n) = h n) : ∀ k m, pH g k (pH f k m) = pH h k m
  | 0, _ => rfl
  | k + 1, m => by
    have hb := hf (m % 16) (by omega)
    rw [pH_s f, pH_s g, pH_s h]
    rw [show (f (m % 16) + 16 * pH f k (m / 16)) % 16 = f (m % 16) by omega, show (f (m % 16) + 16 * pH f k (m / 16)) / 16 = pH f k (m / 16) by omega, pH_pH hf e k, e _ (by omega)]
theorem sm_shift (f : Nat → Int) (m : Nat) : ∀ n, sm f (m + n) = sm f m + sm (fun k => f (m + k)) n
  | 0 => by show sm f m = sm f m + 0; omega
  | n + 1 => by
    show sm f (m + n) + f (m + n) = sm f m + (sm (fun k => f (m + k)) n + f (m + n))
    rw [sm_shift f m n]; omega
/-- the digits' sum -/
def pD : Nat → Nat → Nat
  | 0, _ => 0
  | k + 1, m => p4 (m % 16) + pD k (m / 16)
def bI (m j : Nat) : Int := if m.testBit j then 1 else 0
theorem p4_b : ∀ n, n < 16 → bI n 0 + bI n 1 + bI n 2 + bI n 3 = p4 n := by decide +kernel
theorem bI_16 (m j : Nat) : bI m (4 + j) = bI (m / 16) j := by
  unfold bI
  rw [show (16 : Nat) = 2 ^ 4 from rfl, Nat.testBit_div_two_pow, Nat.add_comm 4 j]
theorem bI_m (m : Nat) {j : Nat} (hj : j < 4) : bI m j = bI (m % 16) j := by
  unfold bI
  rw [show (16 : Nat) = 2 ^ 4 from rfl, Nat.testBit_mod_two_pow]
  simp [hj]
theorem pD_sm : ∀ (k m : Nat), sm (bI m) (4 * k) = pD k m
  | 0, _ => rfl
  | k + 1, m => by
    rw [show 4 * (k + 1) = 4 + 4 * k by omega, sm_shift]
    have e1 : sm (bI m) 4 = p4 (m % 16) := by
      rw [← p4_b (m % 16) (by omega), ← bI_m m (by omega), ← bI_m m (by omega), ← bI_m m (by omega), ← bI_m m (by omega)]
      show 0 + bI m 0 + bI m 1 + bI m 2 + bI m 3 = _
      omega
    have e2 : sm (fun j => bI m (4 + j)) (4 * k) = pD k (m / 16) := by
      rw [← pD_sm k (m / 16)]
      exact sm_congr (fun j _ => bI_16 m j)
    rw [e1, e2, show pD (k + 1) m = p4 (m % 16) + pD k (m / 16) from rfl]
    omega
theorem pcN_pD {m : Nat} (hm : m < 2 ^ 30) : pcN m = pD 8 m := by
  rw [← pD_sm 8 m]
  have h : ∀ k, 30 ≤ k → bI m k = 0 := fun k hk => by
    unfold bI
    have : m.testBit k = false := Nat.testBit_lt_two_pow (Nat.lt_of_lt_of_le hm (Nat.pow_le_pow_right (by decide) hk))
    rw [this]; rfl
  exact (sm_cut h (show 30 ≤ 4 * 8 by omega)).symm
theorem p_and8 {a x y : Nat} (ha : a < 256) : (a + 256 * x) &&& (15 + 256 * y) = a % 16 + 256 * (x &&& y) := by
  have e1 : a + 256 * x = a % 16 + 16 * (a / 16 + 16 * x) := by omega
  have e2 : 15 + 256 * y = 15 + 16 * (0 + 16 * y) := by omega
  have e3 : ∀ n, n < 16 → (n &&& 15) = n ∧ (n &&& 0) = 0 := by decide +kernel
  rw [e1, e2, p_and (by omega) (by omega), p_and (by omega) (by omega), (e3 _ (by omega)).1, (e3 (a / 16) (by omega)).2]
  omega
theorem pS4 {s0 s1 s2 s3 x3 x4 x5 : Nat} (b0 : s0 ≤ 8) (b1 : s1 ≤ 8) (b2 : s2 ≤ 8) (b3 : s3 ≤ 8) (h3 : x3 = s0 + 256 * (s1 + 256 * (s2 + 256 * s3))) (h4 : x4 = x3 + x3 / 256) (h5 : x5 = x4 + x4 / 65536) : x3 < 268435456 ∧ x5 % 64 = s0 + s1 + s2 + s3 := by
  have e4 : x4 = (s0 + s1) + 256 * ((s1 + s2) + 256 * ((s2 + s3) + 256 * s3)) := by omega
  have e5 : x5 = (s0 + s1 + s2 + s3) + 64 * (4 * ((s1 + s2 + s3) + 256 * ((s2 + s3) + 256 * s3))) := by omega
  omega
/-- from the digits to their sum -/
theorem pS3 {m : Nat} {x3 x4 x5 : Nat} (h3 : x3 = (pH p4 8 m + pH p4 8 m / 16) &&& 252645135) (h4 : x4 = x3 + x3 / 256) (h5 : x5 = x4 + x4 / 65536) : x3 < 2 ^ 28 ∧ x5 &&& 63 = pD 8 m := by
  have b : ∀ n, p4 (n % 16) ≤ 4 := fun n => (p4_a (n % 16) (by omega)).2
  obtain ⟨q0, hq0⟩ : ∃ z, z = p4 (m % 16) := ⟨_, rfl⟩
  obtain ⟨q1, hq1⟩ : ∃ z, z = p4 (m / 16 % 16) := ⟨_, rfl⟩
  obtain ⟨q2, hq2⟩ : ∃ z, z = p4 (m / 16 / 16 % 16) := ⟨_, rfl⟩
  obtain ⟨q3, hq3⟩ : ∃ z, z = p4 (m / 16 / 16 / 16 % 16) := ⟨_, rfl⟩
  obtain ⟨q4, hq4⟩ : ∃ z, z = p4 (m / 16 / 16 / 16 / 16 % 16) := ⟨_, rfl⟩
  obtain ⟨q5, hq5⟩ : ∃ z, z = p4 (m / 16 / 16 / 16 / 16 / 16 % 16) := ⟨_, rfl⟩
  obtain ⟨q6, hq6⟩ : ∃ z, z = p4 (m / 16 / 16 / 16 / 16 / 16 / 16 % 16) := ⟨_, rfl⟩
  obtain ⟨q7, hq7⟩ : ∃ z, z = p4 (m / 16 / 16 / 16 / 16 / 16 / 16 / 16 % 16) := ⟨_, rfl⟩
  have eH : pH p4 8 m = q0 + 16 * (q1 + 16 * (q2 + 16 * (q3 + 16 * (q4 + 16 * (q5 + 16 * (q6 + 16 * (q7 + 16 * 0))))))) := by
    simp only [pH]
    rw [hq0, hq1, hq2, hq3, hq4, hq5, hq6, hq7]
  have eD : pD 8 m = q0 + (q1 + (q2 + (q3 + (q4 + (q5 + (q6 + (q7 + 0))))))) := by
    simp only [pD]
    rw [hq0, hq1, hq2, hq3, hq4, hq5, hq6, hq7]
  have b0 : q0 ≤ 4 := hq0 ▸ b _
  have b1 : q1 ≤ 4 := hq1 ▸ b _
  have b2 : q2 ≤ 4 := hq2 ▸ b _
  have b3 : q3 ≤ 4 := hq3 ▸ b _
  have b4 : q4 ≤ 4 := hq4 ▸ b _
  have b5 : q5 ≤ 4 := hq5 ▸ b _
  have b6 : q6 ≤ 4 := hq6 ▸ b _
  have b7 : q7 ≤ 4 := hq7 ▸ b _
  rw [eH] at h3
  have e1 : q0 + 16 * (q1 + 16 * (q2 + 16 * (q3 + 16 * (q4 + 16 * (q5 + 16 * (q6 + 16 * (q7 + 16 * 0))))))) + (q0 + 16 * (q1 + 16 * (q2 + 16 * (q3 + 16 * (q4 + 16 * (q5 + 16 * (q6 + 16 * (q7 + 16 * 0)))))))) / 16 = ((q0 + q1) + 16 * (q1 + q2)) + 256 * (((q2 + q3) + 16 * (q3 + q4)) + 256 * (((q4 + q5) + 16 * (q5 + q6)) + 256 * ((q6 + q7) + 16 * q7 + 256 * 0))) := by omega
  rw [e1, show (252645135 : Nat) = 15 + 256 * (15 + 256 * (15 + 256 * (15 + 256 * 0))) from rfl, p_and8 (by omega), p_and8 (by omega), p_and8 (by omega), p_and8 (by omega)] at h3
  rw [Nat.and_zero] at h3
  clear hq0 hq1 hq2 hq3 hq4 hq5 hq6 hq7 eH e1
  rw [show (q0 + q1 + 16 * (q1 + q2)) % 16 = q0 + q1 by omega, show (q2 + q3 + 16 * (q3 + q4)) % 16 = q2 + q3 by omega, show (q4 + q5 + 16 * (q5 + q6)) % 16 = q4 + q5 by omega, show (q6 + q7 + 16 * q7) % 16 = q6 + q7 by omega] at h3
  have h := pS4 (s0 := q0 + q1) (s1 := q2 + q3) (s2 := q4 + q5) (s3 := q6 + q7) (by omega) (by omega) (by omega) (by omega) (by omega) h4 h5
  have h63 : x5 &&& 63 = x5 % 64 := Nat.and_two_pow_sub_one_eq_mod x5 6
  refine ⟨h.1, ?_⟩
  rw [h63, eD, h.2]
  omega
/-! the method -/
section
variable {mi : jw_M} {o : jw_O} {k : jw_K} {kc ks pc pc' : Nat} {lc lc' : List (Nat × Value)} {st rest : List Value} {μ : jw_Mem} {σ : zS} {hs : Nat}
theorem z_ushr {a j : Nat} (ha : a < 2 ^ 32) (hj : j < 32) : ((iI (a : Int)).toUInt32 >>> ((iI (j : Int)).toUInt32 &&& Int32.toUInt32 31)).toInt32 = iI ((a / 2 ^ j : Nat) : Int) := by
  rw [iI_nat, iI_nat, iI_nat]
  apply Int32.toBitVec_inj.mp
  apply BitVec.eq_of_getLsbD_eq
  intro i hi
  have s_u : ∀ n, n < 32 → (((nI n).toUInt32 &&& Int32.toUInt32 31).toBitVec % 32).toNat = n := by decide +kernel
  show ((nI a).toUInt32 >>> ((nI j).toUInt32 &&& Int32.toUInt32 31)).toBitVec.getLsbD i = (BitVec.ofNat 32 (a / 2 ^ j)).getLsbD i
  rw [UInt32.toBitVec_shiftRight]
  show ((nI a).toUInt32.toBitVec >>> (((nI j).toUInt32 &&& Int32.toUInt32 31).toBitVec % 32).toNat).getLsbD i = _
  rw [s_u j hj, BitVec.getLsbD_ushiftRight]
  show (BitVec.ofNat 32 a).getLsbD (j + i) = _
  rw [BitVec.getLsbD_ofNat, BitVec.getLsbD_ofNat, Nat.testBit_div_two_pow, Nat.add_comm j i]
  by_cases q : i + j < 32
  · simp [q, hi]
  · have : a.testBit (i + j) = false := Nat.testBit_lt_two_pow (Nat.lt_of_lt_of_le ha (Nat.pow_le_pow_right (by decide) (by omega)))
    simp [this]
theorem zx_iushr {a j : Nat} (ha : a < 2 ^ 32) (hj : j < 32) (hd : decode mi.2.1 pc = .ok (.iushr, 1)) (hp : pc + 1 = pc') (kk : jw_X mi o k kc ks pc' lc (.int (iI ((a / 2 ^ j : Nat) : Int)) :: rest) μ hs) : jw_X mi o k kc ks pc lc (.int (iI (j : Int)) :: .int (iI (a : Int)) :: rest) μ hs := jw_iushr hd (z_ushr ha hj) hp kk
theorem zx_ldcN {idx v : Nat} (hd : decode mi.2.1 pc = .ok (.ldc_w idx, 3)) (hw : Cond.constant mi.1.cls idx (Int32.ofNat v) ∈ jw_T) (hp : pc + 3 = pc') (kk : jw_X mi o k kc ks pc' lc (.int (iI (v : Int)) :: st) μ hs) : jw_X mi o k kc ks pc lc st μ hs := jw_ldcw hd hw hp (by rw [iI_nat] at kk; exact kk)
theorem h_bits (m : Nat) (hm : m < 2 ^ 30) : zRo mi_Integer_bitCount 0 o [.int (iI m)] σ (some (.int (iI (pcN m)))) := by
  have e30 : (2 : Nat) ^ 30 = 1073741824 := by decide
  have e32 : (2 : Nat) ^ 32 = 4294967296 := by decide
  have hm8 : m < 16 ^ 8 := by rw [show (16 : Nat) ^ 8 = 4294967296 by decide]; omega
  obtain ⟨a1, ha1⟩ : ∃ z, z = (m / 2) &&& 1431655765 := ⟨_, rfl⟩
  have k1 : a1 ≤ m ∧ m - a1 = pH p1 8 m := by
    have := pS1 8 m hm8
    rw [show pM 5 8 = 1431655765 by decide +kernel, ← ha1] at this
    exact this
  obtain ⟨x1, hx1⟩ : ∃ z, z = m - a1 := ⟨_, rfl⟩
  obtain ⟨a2, ha2⟩ : ∃ z, z = x1 &&& 858993459 := ⟨_, rfl⟩
  obtain ⟨b2, hb2⟩ : ∃ z, z = (x1 / 2 ^ 2) &&& 858993459 := ⟨_, rfl⟩
  have l1 : ∀ n, n < 16 → p1 n < 16 := fun n hn => (p1_a n hn 0 (by omega)).2.2
  have k2 : a2 + b2 = pH p4 8 m := by
    have h := pS2 8 x1 (by rw [hx1, k1.2]; exact pH_lt l1 8 m)
    rw [show pM 3 8 = 858993459 by decide +kernel] at h
    rw [ha2, hb2, show (2 : Nat) ^ 2 = 4 from rfl, h, hx1, k1.2]
    exact pH_pH l1 (fun n hn => (p4_a n hn).1) 8 m
  have c2 : a2 ≤ 858993459 := by rw [ha2]; exact Nat.and_le_right
  have d2 : b2 ≤ 858993459 := by rw [hb2]; exact Nat.and_le_right
  obtain ⟨x2, hx2⟩ : ∃ z, z = a2 + b2 := ⟨_, rfl⟩
  obtain ⟨x3, hx3⟩ : ∃ z, z = (x2 + x2 / 2 ^ 4) &&& 252645135 := ⟨_, rfl⟩
  obtain ⟨x4, hx4⟩ : ∃ z, z = x3 + x3 / 2 ^ 8 := ⟨_, rfl⟩
  obtain ⟨x5, hx5⟩ : ∃ z, z = x4 + x4 / 2 ^ 16 := ⟨_, rfl⟩
  have k3 := pS3 (m := m) (x3 := x3) (x4 := x4) (x5 := x5) (by rw [hx3, hx2, k2]) (by rw [hx4]) (by rw [hx5])
  have e28 : (2 : Nat) ^ 28 = 268435456 := by decide
  have f3 := k3.1
  rw [e28] at f3
  have z2 : (2 : Nat) ^ 2 = 4 := rfl
  have z4 : (2 : Nat) ^ 4 = 16 := rfl
  have z8 : (2 : Nat) ^ 8 = 256 := rfl
  have z16 : (2 : Nat) ^ 16 = 65536 := rfl
  rw [z8] at hx4
  rw [z16] at hx5
  refine z_spec (by decide +kernel) (Nat.le_of_ble_eq_true rfl) rfl (fun k hs hR hE => ?_)
  refine jw_iload_n (pc' := 1) jd_Integer_bitCount_0 rfl rfl rfl ?_
  refine jw_iload_n (pc' := 2) jd_Integer_bitCount_1 rfl rfl rfl ?_
  refine zx_iconst (pc' := 3) (n := 1) jd_Integer_bitCount_2 rfl ?_
  refine zx_iushr (pc' := 4) (a := m) (j := 1) (by omega) (by omega) jd_Integer_bitCount_3 rfl ?_
  refine zx_ldcN (v := 1431655765) (pc' := 7) jd_Integer_bitCount_4 jq_701 rfl ?_
  refine zx_iand (pc' := 8) jd_Integer_bitCount_7 rfl ?_
  rw [show m / 2 ^ 1 &&& 1431655765 = a1 from ha1.symm]
  refine zx_isub (pc' := 9) jd_Integer_bitCount_8 rfl ?_
  rw [show (m : Int) - a1 = (x1 : Int) by omega]
  refine jw_istore_n (pc' := 10) (lc' := [(0, _)]) jd_Integer_bitCount_9 rfl (Nat.le_of_ble_eq_true rfl) ⟨rfl, trivial⟩ rfl ?_
  refine jw_iload_n (pc' := 11) jd_Integer_bitCount_10 rfl rfl rfl ?_
  refine zx_ldcN (v := 858993459) (pc' := 14) jd_Integer_bitCount_11 jq_702 rfl ?_
  refine zx_iand (pc' := 15) jd_Integer_bitCount_14 rfl ?_
  rw [← ha2]
  refine jw_iload_n (pc' := 16) jd_Integer_bitCount_15 rfl rfl rfl ?_
  refine zx_iconst (pc' := 17) (n := 2) jd_Integer_bitCount_16 rfl ?_
  refine zx_iushr (pc' := 18) (a := x1) (j := 2) (by omega) (by omega) jd_Integer_bitCount_17 rfl ?_
  refine zx_ldcN (v := 858993459) (pc' := 21) jd_Integer_bitCount_18 jq_702 rfl ?_
  refine zx_iand (pc' := 22) jd_Integer_bitCount_21 rfl ?_
  rw [← hb2]
  refine zx_iadd (pc' := 23) jd_Integer_bitCount_22 rfl ?_
  rw [show (a2 : Int) + b2 = (x2 : Int) by omega]
  refine jw_istore_n (pc' := 24) (lc' := [(0, _)]) jd_Integer_bitCount_23 rfl (Nat.le_of_ble_eq_true rfl) ⟨rfl, trivial⟩ rfl ?_
  refine jw_iload_n (pc' := 25) jd_Integer_bitCount_24 rfl rfl rfl ?_
  refine jw_iload_n (pc' := 26) jd_Integer_bitCount_25 rfl rfl rfl ?_
  refine zx_iconst (pc' := 27) (n := 4) jd_Integer_bitCount_26 rfl ?_
  refine zx_iushr (pc' := 28) (a := x2) (j := 4) (by omega) (by omega) jd_Integer_bitCount_27 rfl ?_
  refine zx_iadd (pc' := 29) jd_Integer_bitCount_28 rfl ?_
  rw [show (x2 : Int) + ((x2 / 2 ^ 4 : Nat) : Int) = ((x2 + x2 / 2 ^ 4 : Nat) : Int) by omega]
  refine zx_ldcN (v := 252645135) (pc' := 32) jd_Integer_bitCount_29 jq_703 rfl ?_
  refine zx_iand (pc' := 33) jd_Integer_bitCount_32 rfl ?_
  rw [← hx3]
  refine jw_istore_n (pc' := 34) (lc' := [(0, _)]) jd_Integer_bitCount_33 rfl (Nat.le_of_ble_eq_true rfl) ⟨rfl, trivial⟩ rfl ?_
  refine jw_iload_n (pc' := 35) jd_Integer_bitCount_34 rfl rfl rfl ?_
  refine jw_iload_n (pc' := 36) jd_Integer_bitCount_35 rfl rfl rfl ?_
  refine zx_bipush (pc' := 38) (n := 8) jd_Integer_bitCount_36 (by decide +kernel) rfl ?_
  refine zx_iushr (pc' := 39) (a := x3) (j := 8) (by omega) (by omega) jd_Integer_bitCount_38 rfl ?_
  refine zx_iadd (pc' := 40) jd_Integer_bitCount_39 rfl ?_
  rw [z8, show (x3 : Int) + ((x3 / 256 : Nat) : Int) = (x4 : Int) by omega]
  refine jw_istore_n (pc' := 41) (lc' := [(0, _)]) jd_Integer_bitCount_40 rfl (Nat.le_of_ble_eq_true rfl) ⟨rfl, trivial⟩ rfl ?_
  refine jw_iload_n (pc' := 42) jd_Integer_bitCount_41 rfl rfl rfl ?_
  refine jw_iload_n (pc' := 43) jd_Integer_bitCount_42 rfl rfl rfl ?_
  refine zx_bipush (pc' := 45) (n := 16) jd_Integer_bitCount_43 (by decide +kernel) rfl ?_
  refine zx_iushr (pc' := 46) (a := x4) (j := 16) (by omega) (by omega) jd_Integer_bitCount_45 rfl ?_
  refine zx_iadd (pc' := 47) jd_Integer_bitCount_46 rfl ?_
  rw [z16, show (x4 : Int) + ((x4 / 65536 : Nat) : Int) = (x5 : Int) by omega]
  refine jw_istore_n (pc' := 48) (lc' := [(0, _)]) jd_Integer_bitCount_47 rfl (Nat.le_of_ble_eq_true rfl) ⟨rfl, trivial⟩ rfl ?_
  refine jw_iload_n (pc' := 49) jd_Integer_bitCount_48 rfl rfl rfl ?_
  refine zx_bipush (pc' := 51) (n := 63) jd_Integer_bitCount_49 (by decide +kernel) rfl ?_
  refine zx_iand (pc' := 52) (m := x5) (n := 63) jd_Integer_bitCount_51 rfl ?_
  refine zx_iret hE jd_Integer_bitCount_52 rfl ?_
  rw [k3.2, ← pcN_pD hm]
  exact ⟨rfl, rfl⟩
end
