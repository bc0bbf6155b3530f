theorem jd_Renames_nearest_0 : decode mi_Renames_nearest.2.1 0 = .ok (.iconst (-1), 1) := by decide +kernel
theorem jd_Renames_nearest_1 : decode mi_Renames_nearest.2.1 1 = .ok (.istore 4, 2) := by decide +kernel
theorem jd_Renames_nearest_3 : decode mi_Renames_nearest.2.1 3 = .ok (.bipush 59, 2) := by decide +kernel
theorem jd_Renames_nearest_5 : decode mi_Renames_nearest.2.1 5 = .ok (.istore 5, 2) := by decide +kernel
theorem jd_Renames_nearest_7 : decode mi_Renames_nearest.2.1 7 = .ok (.iconst 0, 1) := by decide +kernel
theorem jd_Renames_nearest_8 : decode mi_Renames_nearest.2.1 8 = .ok (.istore 6, 2) := by decide +kernel
theorem jd_Renames_nearest_10 : decode mi_Renames_nearest.2.1 10 = .ok (.iload 6, 2) := by decide +kernel
theorem jd_Renames_nearest_12 : decode mi_Renames_nearest.2.1 12 = .ok (.bipush 12, 2) := by decide +kernel
theorem jd_Renames_nearest_14 : decode mi_Renames_nearest.2.1 14 = .ok (.if_icmp .ge 73, 3) := by decide +kernel
theorem jd_Renames_nearest_17 : decode mi_Renames_nearest.2.1 17 = .ok (.aload_n 3, 1) := by decide +kernel
theorem jd_Renames_nearest_18 : decode mi_Renames_nearest.2.1 18 = .ok (.iload 6, 2) := by decide +kernel
theorem jd_Renames_nearest_20 : decode mi_Renames_nearest.2.1 20 = .ok (.invokevirtual 35, 3) := by decide +kernel
theorem jd_Renames_nearest_23 : decode mi_Renames_nearest.2.1 23 = .ok (.ifCond .eq 58, 3) := by decide +kernel
theorem jd_Renames_nearest_26 : decode mi_Renames_nearest.2.1 26 = .ok (.aload_n 1, 1) := by decide +kernel
theorem jd_Renames_nearest_27 : decode mi_Renames_nearest.2.1 27 = .ok (.iload 6, 2) := by decide +kernel
theorem jd_Renames_nearest_29 : decode mi_Renames_nearest.2.1 29 = .ok (.invokevirtual 35, 3) := by decide +kernel
theorem jd_Renames_nearest_32 : decode mi_Renames_nearest.2.1 32 = .ok (.ifCond .ne 49, 3) := by decide +kernel
theorem jd_Renames_nearest_35 : decode mi_Renames_nearest.2.1 35 = .ok (.aload_n 0, 1) := by decide +kernel
theorem jd_Renames_nearest_36 : decode mi_Renames_nearest.2.1 36 = .ok (.getfield 15, 3) := by decide +kernel
theorem jd_Renames_nearest_39 : decode mi_Renames_nearest.2.1 39 = .ok (.iload 6, 2) := by decide +kernel
theorem jd_Renames_nearest_41 : decode mi_Renames_nearest.2.1 41 = .ok (.iaload, 1) := by decide +kernel
theorem jd_Renames_nearest_42 : decode mi_Renames_nearest.2.1 42 = .ok (.iconst (-1), 1) := by decide +kernel
theorem jd_Renames_nearest_43 : decode mi_Renames_nearest.2.1 43 = .ok (.if_icmp .ne 38, 3) := by decide +kernel
theorem jd_Renames_nearest_46 : decode mi_Renames_nearest.2.1 46 = .ok (.aload_n 0, 1) := by decide +kernel
theorem jd_Renames_nearest_47 : decode mi_Renames_nearest.2.1 47 = .ok (.getfield 21, 3) := by decide +kernel
theorem jd_Renames_nearest_50 : decode mi_Renames_nearest.2.1 50 = .ok (.aload_n 1, 1) := by decide +kernel
theorem jd_Renames_nearest_51 : decode mi_Renames_nearest.2.1 51 = .ok (.iload_n 2, 1) := by decide +kernel
theorem jd_Renames_nearest_52 : decode mi_Renames_nearest.2.1 52 = .ok (.invokevirtual 45, 3) := by decide +kernel
theorem jd_Renames_nearest_55 : decode mi_Renames_nearest.2.1 55 = .ok (.aload_n 3, 1) := by decide +kernel
theorem jd_Renames_nearest_56 : decode mi_Renames_nearest.2.1 56 = .ok (.iload 6, 2) := by decide +kernel
theorem jd_Renames_nearest_58 : decode mi_Renames_nearest.2.1 58 = .ok (.invokevirtual 45, 3) := by decide +kernel
theorem jd_Renames_nearest_61 : decode mi_Renames_nearest.2.1 61 = .ok (.invokevirtual 49, 3) := by decide +kernel
theorem jd_Renames_nearest_64 : decode mi_Renames_nearest.2.1 64 = .ok (.istore 7, 2) := by decide +kernel
theorem jd_Renames_nearest_66 : decode mi_Renames_nearest.2.1 66 = .ok (.iload 7, 2) := by decide +kernel
theorem jd_Renames_nearest_68 : decode mi_Renames_nearest.2.1 68 = .ok (.iload 5, 2) := by decide +kernel
theorem jd_Renames_nearest_70 : decode mi_Renames_nearest.2.1 70 = .ok (.if_icmp .le 11, 3) := by decide +kernel
theorem jd_Renames_nearest_73 : decode mi_Renames_nearest.2.1 73 = .ok (.iload 6, 2) := by decide +kernel
theorem jd_Renames_nearest_75 : decode mi_Renames_nearest.2.1 75 = .ok (.istore 4, 2) := by decide +kernel
theorem jd_Renames_nearest_77 : decode mi_Renames_nearest.2.1 77 = .ok (.iload 7, 2) := by decide +kernel
theorem jd_Renames_nearest_79 : decode mi_Renames_nearest.2.1 79 = .ok (.istore 5, 2) := by decide +kernel
theorem jd_Renames_nearest_81 : decode mi_Renames_nearest.2.1 81 = .ok (.iinc 6 1, 3) := by decide +kernel
theorem jd_Renames_nearest_84 : decode mi_Renames_nearest.2.1 84 = .ok (.goto (-74), 3) := by decide +kernel
theorem jd_Renames_nearest_87 : decode mi_Renames_nearest.2.1 87 = .ok (.iload 4, 2) := by decide +kernel
theorem jd_Renames_nearest_89 : decode mi_Renames_nearest.2.1 89 = .ok (.ifCond .lt 28, 3) := by decide +kernel
theorem jd_Renames_nearest_92 : decode mi_Renames_nearest.2.1 92 = .ok (.iload 4, 2) := by decide +kernel
theorem jd_Renames_nearest_94 : decode mi_Renames_nearest.2.1 94 = .ok (.bipush 12, 2) := by decide +kernel
theorem jd_Renames_nearest_96 : decode mi_Renames_nearest.2.1 96 = .ok (.if_icmp .ge 21, 3) := by decide +kernel
theorem jd_Renames_nearest_99 : decode mi_Renames_nearest.2.1 99 = .ok (.aload_n 0, 1) := by decide +kernel
theorem jd_Renames_nearest_100 : decode mi_Renames_nearest.2.1 100 = .ok (.getfield 15, 3) := by decide +kernel
theorem jd_Renames_nearest_103 : decode mi_Renames_nearest.2.1 103 = .ok (.iload 4, 2) := by decide +kernel
theorem jd_Renames_nearest_105 : decode mi_Renames_nearest.2.1 105 = .ok (.iload_n 2, 1) := by decide +kernel
theorem jd_Renames_nearest_106 : decode mi_Renames_nearest.2.1 106 = .ok (.iastore, 1) := by decide +kernel
theorem jd_Renames_nearest_107 : decode mi_Renames_nearest.2.1 107 = .ok (.aload_n 0, 1) := by decide +kernel
theorem jd_Renames_nearest_108 : decode mi_Renames_nearest.2.1 108 = .ok (.dup, 1) := by decide +kernel
theorem jd_Renames_nearest_109 : decode mi_Renames_nearest.2.1 109 = .ok (.getfield 25, 3) := by decide +kernel
theorem jd_Renames_nearest_112 : decode mi_Renames_nearest.2.1 112 = .ok (.iconst 1, 1) := by decide +kernel
theorem jd_Renames_nearest_113 : decode mi_Renames_nearest.2.1 113 = .ok (.iadd, 1) := by decide +kernel
theorem jd_Renames_nearest_114 : decode mi_Renames_nearest.2.1 114 = .ok (.putfield 25, 3) := by decide +kernel
theorem jd_Renames_nearest_117 : decode mi_Renames_nearest.2.1 117 = .ok (.iload 4, 2) := by decide +kernel
theorem jd_Renames_nearest_119 : decode mi_Renames_nearest.2.1 119 = .ok (.ireturn, 1) := by decide +kernel
theorem jd_Renames_trace_0 : decode mi_Renames_trace.2.1 0 = .ok (.aload_n 0, 1) := by decide +kernel
theorem jd_Renames_trace_1 : decode mi_Renames_trace.2.1 1 = .ok (.getfield 9, 3) := by decide +kernel
theorem jd_Renames_trace_4 : decode mi_Renames_trace.2.1 4 = .ok (.iconst (-1), 1) := by decide +kernel
theorem jd_Renames_trace_5 : decode mi_Renames_trace.2.1 5 = .ok (.invokestatic 29, 3) := by decide +kernel
theorem jd_Renames_trace_8 : decode mi_Renames_trace.2.1 8 = .ok (.aload_n 0, 1) := by decide +kernel
theorem jd_Renames_trace_9 : decode mi_Renames_trace.2.1 9 = .ok (.getfield 15, 3) := by decide +kernel
theorem jd_Renames_trace_12 : decode mi_Renames_trace.2.1 12 = .ok (.iconst (-1), 1) := by decide +kernel
theorem jd_Renames_trace_13 : decode mi_Renames_trace.2.1 13 = .ok (.invokestatic 29, 3) := by decide +kernel
theorem jd_Renames_trace_16 : decode mi_Renames_trace.2.1 16 = .ok (.aload_n 0, 1) := by decide +kernel
theorem jd_Renames_trace_17 : decode mi_Renames_trace.2.1 17 = .ok (.iconst 0, 1) := by decide +kernel
theorem jd_Renames_trace_18 : decode mi_Renames_trace.2.1 18 = .ok (.putfield 25, 3) := by decide +kernel
theorem jd_Renames_trace_21 : decode mi_Renames_trace.2.1 21 = .ok (.iconst 0, 1) := by decide +kernel
theorem jd_Renames_trace_22 : decode mi_Renames_trace.2.1 22 = .ok (.istore_n 3, 1) := by decide +kernel
theorem jd_Renames_trace_23 : decode mi_Renames_trace.2.1 23 = .ok (.iload_n 3, 1) := by decide +kernel
theorem jd_Renames_trace_24 : decode mi_Renames_trace.2.1 24 = .ok (.bipush 12, 2) := by decide +kernel
theorem jd_Renames_trace_26 : decode mi_Renames_trace.2.1 26 = .ok (.if_icmp .ge 42, 3) := by decide +kernel
theorem jd_Renames_trace_29 : decode mi_Renames_trace.2.1 29 = .ok (.aload_n 1, 1) := by decide +kernel
theorem jd_Renames_trace_30 : decode mi_Renames_trace.2.1 30 = .ok (.iload_n 3, 1) := by decide +kernel
theorem jd_Renames_trace_31 : decode mi_Renames_trace.2.1 31 = .ok (.invokevirtual 35, 3) := by decide +kernel
theorem jd_Renames_trace_34 : decode mi_Renames_trace.2.1 34 = .ok (.ifCond .eq 28, 3) := by decide +kernel
theorem jd_Renames_trace_37 : decode mi_Renames_trace.2.1 37 = .ok (.aload_n 0, 1) := by decide +kernel
theorem jd_Renames_trace_38 : decode mi_Renames_trace.2.1 38 = .ok (.getfield 9, 3) := by decide +kernel
theorem jd_Renames_trace_41 : decode mi_Renames_trace.2.1 41 = .ok (.iload_n 3, 1) := by decide +kernel
theorem jd_Renames_trace_42 : decode mi_Renames_trace.2.1 42 = .ok (.aload_n 2, 1) := by decide +kernel
theorem jd_Renames_trace_43 : decode mi_Renames_trace.2.1 43 = .ok (.iload_n 3, 1) := by decide +kernel
theorem jd_Renames_trace_44 : decode mi_Renames_trace.2.1 44 = .ok (.invokevirtual 35, 3) := by decide +kernel
theorem jd_Renames_trace_47 : decode mi_Renames_trace.2.1 47 = .ok (.ifCond .eq 7, 3) := by decide +kernel
theorem jd_Renames_trace_50 : decode mi_Renames_trace.2.1 50 = .ok (.iload_n 3, 1) := by decide +kernel
theorem jd_Renames_trace_51 : decode mi_Renames_trace.2.1 51 = .ok (.goto 10, 3) := by decide +kernel
theorem jd_Renames_trace_54 : decode mi_Renames_trace.2.1 54 = .ok (.aload_n 0, 1) := by decide +kernel
theorem jd_Renames_trace_55 : decode mi_Renames_trace.2.1 55 = .ok (.aload_n 1, 1) := by decide +kernel
theorem jd_Renames_trace_56 : decode mi_Renames_trace.2.1 56 = .ok (.iload_n 3, 1) := by decide +kernel
theorem jd_Renames_trace_57 : decode mi_Renames_trace.2.1 57 = .ok (.aload_n 2, 1) := by decide +kernel
theorem jd_Renames_trace_58 : decode mi_Renames_trace.2.1 58 = .ok (.invokevirtual 41, 3) := by decide +kernel
theorem jd_Renames_trace_61 : decode mi_Renames_trace.2.1 61 = .ok (.iastore, 1) := by decide +kernel
theorem jd_Renames_trace_62 : decode mi_Renames_trace.2.1 62 = .ok (.iinc 3 1, 3) := by decide +kernel
theorem jd_Renames_trace_65 : decode mi_Renames_trace.2.1 65 = .ok (.goto (-42), 3) := by decide +kernel
theorem jd_Renames_trace_68 : decode mi_Renames_trace.2.1 68 = .ok (.return_, 1) := by decide +kernel
theorem jd_Renames_fateOf_0 : decode mi_Renames_fateOf.2.1 0 = .ok (.iload_n 1, 1) := by decide +kernel
theorem jd_Renames_fateOf_1 : decode mi_Renames_fateOf.2.1 1 = .ok (.ifCond .lt 18, 3) := by decide +kernel
theorem jd_Renames_fateOf_4 : decode mi_Renames_fateOf.2.1 4 = .ok (.iload_n 1, 1) := by decide +kernel
theorem jd_Renames_fateOf_5 : decode mi_Renames_fateOf.2.1 5 = .ok (.bipush 12, 2) := by decide +kernel
theorem jd_Renames_fateOf_7 : decode mi_Renames_fateOf.2.1 7 = .ok (.if_icmp .ge 12, 3) := by decide +kernel
theorem jd_Renames_fateOf_10 : decode mi_Renames_fateOf.2.1 10 = .ok (.aload_n 0, 1) := by decide +kernel
theorem jd_Renames_fateOf_11 : decode mi_Renames_fateOf.2.1 11 = .ok (.getfield 9, 3) := by decide +kernel
theorem jd_Renames_fateOf_14 : decode mi_Renames_fateOf.2.1 14 = .ok (.iload_n 1, 1) := by decide +kernel
theorem jd_Renames_fateOf_15 : decode mi_Renames_fateOf.2.1 15 = .ok (.iaload, 1) := by decide +kernel
theorem jd_Renames_fateOf_16 : decode mi_Renames_fateOf.2.1 16 = .ok (.goto 4, 3) := by decide +kernel
theorem jd_Renames_fateOf_19 : decode mi_Renames_fateOf.2.1 19 = .ok (.iconst (-1), 1) := by decide +kernel
theorem jd_Renames_fateOf_20 : decode mi_Renames_fateOf.2.1 20 = .ok (.ireturn, 1) := by decide +kernel
theorem jd_Renames_sourceOf_0 : decode mi_Renames_sourceOf.2.1 0 = .ok (.iload_n 1, 1) := by decide +kernel
theorem jd_Renames_sourceOf_1 : decode mi_Renames_sourceOf.2.1 1 = .ok (.ifCond .lt 18, 3) := by decide +kernel
theorem jd_Renames_sourceOf_4 : decode mi_Renames_sourceOf.2.1 4 = .ok (.iload_n 1, 1) := by decide +kernel
theorem jd_Renames_sourceOf_5 : decode mi_Renames_sourceOf.2.1 5 = .ok (.bipush 12, 2) := by decide +kernel
theorem jd_Renames_sourceOf_7 : decode mi_Renames_sourceOf.2.1 7 = .ok (.if_icmp .ge 12, 3) := by decide +kernel
theorem jd_Renames_sourceOf_10 : decode mi_Renames_sourceOf.2.1 10 = .ok (.aload_n 0, 1) := by decide +kernel
theorem jd_Renames_sourceOf_11 : decode mi_Renames_sourceOf.2.1 11 = .ok (.getfield 15, 3) := by decide +kernel
theorem jd_Renames_sourceOf_14 : decode mi_Renames_sourceOf.2.1 14 = .ok (.iload_n 1, 1) := by decide +kernel
theorem jd_Renames_sourceOf_15 : decode mi_Renames_sourceOf.2.1 15 = .ok (.iaload, 1) := by decide +kernel
theorem jd_Renames_sourceOf_16 : decode mi_Renames_sourceOf.2.1 16 = .ok (.goto 4, 3) := by decide +kernel
theorem jd_Renames_sourceOf_19 : decode mi_Renames_sourceOf.2.1 19 = .ok (.iconst (-1), 1) := by decide +kernel
theorem jd_Renames_sourceOf_20 : decode mi_Renames_sourceOf.2.1 20 = .ok (.ireturn, 1) := by decide +kernel
theorem jd_Renames_howMany_0 : decode mi_Renames_howMany.2.1 0 = .ok (.aload_n 0, 1) := by decide +kernel
theorem jd_Renames_howMany_1 : decode mi_Renames_howMany.2.1 1 = .ok (.getfield 25, 3) := by decide +kernel
theorem jd_Renames_howMany_4 : decode mi_Renames_howMany.2.1 4 = .ok (.ireturn, 1) := by decide +kernel
/-! what became of the paths of one tree in another one -/
theorem it_inv {α : Type} {f : Nat → α → α} {N : Nat} {Q : Nat → α → Prop} (hf : ∀ i s, i < N → Q i s → Q (i + 1) (f i s)) : ∀ (d i : Nat) (s : α), i + d = N → Q i s → Q N (it f d i s)
  | 0, i, s, h, hq => by rw [← h]; exact hq
  | d + 1, i, s, h, hq => it_inv hf d (i + 1) _ (by omega) (hf i s (by omega) hq)
def sm (f : Nat → Int) : Nat → Int
  | 0 => 0
  | n + 1 => sm f n + f n
theorem sm_congr {f g : Nat → Int} : ∀ {n : Nat}, (∀ k, k < n → f k = g k) → sm f n = sm g n
  | 0, _ => rfl
  | n + 1, h => by unfold sm; rw [sm_congr (n := n) (fun k hk => h k (by omega)), h n (by omega)]
theorem nearV_rng {a b : zV} (ha : okV a) (hb : okV b) : 0 ≤ nearV a b ∧ nearV a b ≤ 2000 := by
  have g := msT_rng ha hb 0
  unfold nearV
  split
  · omega
  · have h1 : 0 ≤ 200 * msT a b 0 / ((a.2.1 : Int) + b.2.1) := Int.ediv_nonneg (by omega) (by omega)
    have h2 : 200 * msT a b 0 / ((a.2.1 : Int) + b.2.1) ≤ 200 * msT a b 0 := Int.ediv_le_self _ (by omega)
    omega
def neStep (A B : zT) (S : Nat → Int) (p : Nat) (other : Nat) (u : Int × Int) : Int × Int := if (B other).1 = 0 then u else if ¬ (A other).1 = 0 then u else if ¬ S other = -1 then u else if u.2 < nearV (A p) (B other) then ((other : Int), nearV (A p) (B other)) else u
def neF (A B : zT) (S : Nat → Int) (p : Nat) : Int × Int := it (neStep A B S p) 12 0 (-1, 59)
def neP (A B : zT) (S : Nat → Int) (u : Int × Int) : Prop := 59 ≤ u.2 ∧ u.2 ≤ 2000 ∧ (u.1 = -1 ∨ ∃ q : Nat, q < 12 ∧ u.1 = q ∧ ¬ (B q).1 = 0 ∧ (A q).1 = 0 ∧ S q = -1)
theorem neP.lo {A B : zT} {S : Nat → Int} {u : Int × Int} (h : neP A B S u) : -1 ≤ u.1 ∧ u.1 ≤ 11 := by
  obtain ⟨-, -, h | ⟨q, hq, h, -⟩⟩ := h <;> omega
theorem neStep_P {A B : zT} {S : Nat → Int} {p : Nat} (hA : ∀ p, p < 12 → okV (A p)) (hB : ∀ p, p < 12 → okV (B p)) (hp : p < 12) (i : Nat) (u : Int × Int) (hi : i < 12) (h : neP A B S u) : neP A B S (neStep A B S p i u) := by
  unfold neStep
  split
  · exact h
  · split
    · exact h
    · split
      · exact h
      · split
        · rename_i h1 h2 h3 h4
          have g := nearV_rng (hA p hp) (hB i hi)
          exact ⟨by show 59 ≤ nearV _ _; have := h.1; omega, g.2, Or.inr ⟨i, hi, rfl, h1, by omega, by omega⟩⟩
        · exact h
theorem neF_P {A B : zT} {S : Nat → Int} {p : Nat} (hA : ∀ p, p < 12 → okV (A p)) (hB : ∀ p, p < 12 → okV (B p)) (hp : p < 12) : neP A B S (neF A B S p) := it_inv (N := 12) (Q := fun _ u => neP A B S u) (fun i s hi h => neStep_P hA hB hp i s hi h) 12 0 (-1, 59) rfl ⟨by show (59 : Int) ≤ 59; omega, by show (59 : Int) ≤ 2000; omega, Or.inl rfl⟩
abbrev zN : Type := (Nat → Int) × (Nat → Int) × Int
def trStep (A B : zT) (p : Nat) (u : zN) : zN := if (A p).1 = 0 then u else if ¬ (B p).1 = 0 then ((fun q => if q = p then (p : Int) else u.1 q), u.2.1, u.2.2) else ((fun q => if q = p then (neF A B u.2.1 p).1 else u.1 q), (fun q => if (q : Int) = (neF A B u.2.1 p).1 then (p : Int) else u.2.1 q), if (neF A B u.2.1 p).1 = -1 then u.2.2 else u.2.2 + 1)
def trF (A B : zT) : zN := it (trStep A B) 12 0 (fun _ => -1, fun _ => -1, 0)
/-- whether a path went elsewhere -/
def moved (F : Nat → Int) (p : Nat) : Int := if 0 ≤ F p ∧ ¬ F p = p then 1 else 0
def trP (A B : zT) (i : Nat) (u : zN) : Prop := (∀ q, -1 ≤ u.1 q ∧ u.1 q ≤ 11) ∧ (∀ q, -1 ≤ u.2.1 q ∧ u.2.1 q ≤ 11) ∧ 0 ≤ u.2.2 ∧ u.2.2 ≤ i ∧ u.2.2 = sm (moved u.1) i ∧ (∀ p, p < 12 → (A p).1 = 0 → u.1 p = -1) ∧ (∀ p, p < 12 → ∀ q : Nat, u.1 p = q → ¬ (B q).1 = 0) ∧ (∀ p, p < i → ¬ (A p).1 = 0 → ¬ (B p).1 = 0 → u.1 p = p) ∧ ∀ p, i ≤ p → u.1 p = -1
theorem trStep_P {A B : zT} (hA : ∀ p, p < 12 → okV (A p)) (hB : ∀ p, p < 12 → okV (B p)) (i : Nat) (u : zN) (hi : i < 12) (h : trP A B i u) : trP A B (i + 1) (trStep A B i u) := by
  obtain ⟨F, S, n⟩ := u
  obtain ⟨h1, h2, h3, h4, h5, h6, h7, h8, h9⟩ := h
  simp only at h1 h2 h3 h4 h5 h6 h7 h8 h9
  have hn := neF_P (S := S) hA hB hi
  have hlo := hn.lo
  have hsm : ∀ v : Int, sm (moved (fun q => if q = i then v else F q)) i = n := fun v => by
    rw [h5]; exact sm_congr (fun k hk => by unfold moved; rw [show (fun q => if q = i then v else F q) k = F k from if_neg (by omega)])
  unfold trStep
  split
  · rename_i g1
    refine ⟨h1, h2, h3, by simp only; omega, ?_, h6, h7, fun p hp => ?_, fun p hp => h9 p (by omega)⟩
    · show n = sm (moved F) (i + 1)
      have : moved F i = 0 := by unfold moved; rw [h9 i (by omega)]; simp
      unfold sm; rw [← h5, this]; omega
    · by_cases q : p = i
      · rw [q]; intro z; exact absurd g1 z
      · exact h8 p (by omega)
  · split
    · rename_i g1 g2
      refine ⟨fun q => ?_, h2, h3, by simp only; omega, ?_, fun p hp => ?_, fun p hp q => ?_, fun p hp => ?_, fun p hp => ?_⟩
      · simp only; split
        · omega
        · exact h1 q
      · show n = sm (moved _) (i + 1)
        have : moved (fun q => if q = i then (i : Int) else F q) i = 0 := by unfold moved; simp
        unfold sm; rw [hsm, this]; omega
      · by_cases q : p = i
        · rw [q]; intro z; exact absurd z g1
        · simp only; rw [if_neg q]; exact h6 p hp
      · by_cases q9 : p = i
        · simp only; rw [if_pos q9]; intro z; rw [show q = i by omega]; exact g2
        · simp only; rw [if_neg q9]; exact h7 p hp q
      · by_cases q : p = i
        · intro _ _; simp only; rw [if_pos q, q]
        · simp only; rw [if_neg q]; exact h8 p (by omega)
      · simp only; rw [if_neg (by omega)]; exact h9 p (by omega)
    · rename_i g1 g2
      refine ⟨fun q => ?_, fun q => ?_, ?_, ?_, ?_, fun p hp => ?_, fun p hp q => ?_, fun p hp => ?_, fun p hp => ?_⟩
      · simp only; split
        · exact hlo
        · exact h1 q
      · simp only; split
        · omega
        · exact h2 q
      · simp only; split <;> omega
      · simp only; split <;> omega
      · show (if (neF A B S i).1 = -1 then n else n + 1) = sm (moved _) (i + 1)
        unfold sm
        rw [hsm]
        unfold moved
        simp only [if_true]
        obtain ⟨-, -, hx | ⟨q, hq, hx, hb, ha, -⟩⟩ := hn
        · rw [hx]; simp
        · have hqi : ¬ q = i := fun z => g1 (by rw [← z]; exact ha)
          rw [hx, if_neg (by omega), if_pos (by omega)]
      · by_cases q : p = i
        · rw [q]; intro z; exact absurd z g1
        · simp only; rw [if_neg q]; exact h6 p hp
      · by_cases q9 : p = i
        · simp only; rw [if_pos q9]; intro z
          obtain ⟨-, -, hx | ⟨q2, hq2, hx, hb, -⟩⟩ := hn
          · omega
          · rw [show q = q2 by omega]; exact hb
        · simp only; rw [if_neg q9]; exact h7 p hp q
      · by_cases q : p = i
        · rw [q]; intro _ z; exact absurd z g2
        · simp only; rw [if_neg q]; exact h8 p (by omega)
      · simp only; rw [if_neg (by omega)]; exact h9 p (by omega)
theorem tr0_P {A B : zT} : trP A B 0 (fun _ => -1, fun _ => -1, 0) := ⟨fun q => by simp, fun q => by simp, by simp, by simp, rfl, fun _ _ _ => rfl, fun p hp q z => by simp only at z; omega, fun p hp => absurd hp (by omega), fun _ _ => rfl⟩
theorem trF_P {A B : zT} (hA : ∀ p, p < 12 → okV (A p)) (hB : ∀ p, p < 12 → okV (B p)) : trP A B 12 (trF A B) := it_inv (N := 12) (fun i s hi h => trStep_P hA hB i s hi h) 12 0 _ rfl tr0_P
def RC (o : jw_O) (σ : zS) (r : Nat) (u : zN) : Prop := isR o r ∧ (∀ q, q < 12 → iv σ (r + 1) q = u.1 q) ∧ (∀ q, q < 12 → iv σ (r + 2) q = u.2.1 q) ∧ iv σ r 3 = u.2.2
theorem RC.fr {o : jw_O} {σ σ' : zS} {r b m : Nat} {u : zN} (h : RC o σ r u) (f : zF σ σ' b m) (hd : r + 7 ≤ b ∨ b + m ≤ r) : RC o σ' r u := ⟨h.1, fun q hq => (iv_cell (f _ (by omega)) q).trans (h.2.1 q hq), fun q hq => (iv_cell (f _ (by omega)) q).trans (h.2.2.1 q hq), (iv_cell (f _ (by omega)) _).trans h.2.2.2⟩
section
variable {o : jw_O} {σ : zS} {r t1 t2 : Nat} {A B : zT}
theorem r_nearest {u : zN} (hr : RC o σ r u) (hA : TC o σ t1 A) (hB : TC o σ t2 B) (hd1 : r + 7 ≤ t1 ∨ t1 + 28 ≤ r) (hd2 : r + 7 ≤ t2 ∨ t2 + 28 ≤ r) (p : Nat) (hp : p < 12) (hn : 0 ≤ u.2.2 ∧ u.2.2 ≤ 100) : zSpec mi_Renames_nearest 3 o [.ref r, .ref t1, .int (iI p), .ref t2] σ (fun v s => v = some (.int (iI (neF A B u.2.1 p).1)) ∧ (∀ q, q < 12 → iv s (r + 2) q = if (q : Int) = (neF A B u.2.1 p).1 then (p : Int) else u.2.1 q) ∧ iv s r 3 = (if (neF A B u.2.1 p).1 = -1 then u.2.2 else u.2.2 + 1) ∧ s (r + 1) = σ (r + 1) ∧ zF σ s r 7) := by
  obtain ⟨hrr, hr1, hr2, hr3⟩ := hr
  have hAA := hA.1
  have hBB := hB.1
  have okA : ∀ p, p < 12 → okV (A p) := fun p hp => (hA.2 p hp).2.1
  have okB : ∀ p, p < 12 → okV (B p) := fun p hp => (hB.2 p hp).2.1
  have hmm := hrr.m
  refine z_spec (by decide +kernel) (Nat.le_of_ble_eq_true rfl) rfl (fun k hs hR hE => ?_)
  refine zx_iconst (pc' := 1) (n := -1) jd_Renames_nearest_0 rfl ?_
  refine jw_istore (pc' := 3) (lc' := [(0, _), (1, _), (2, _), (3, _), (4, _)]) jd_Renames_nearest_1 (Nat.le_of_ble_eq_true rfl) ⟨rfl, rfl, rfl, rfl, rfl, trivial⟩ rfl ?_
  refine zx_bipush (pc' := 5) (n := 59) jd_Renames_nearest_3 (by decide +kernel) rfl ?_
  refine jw_istore (pc' := 7) (lc' := [(0, _), (1, _), (2, _), (3, _), (4, _), (5, _)]) jd_Renames_nearest_5 (Nat.le_of_ble_eq_true rfl) ⟨rfl, rfl, rfl, rfl, rfl, rfl, trivial⟩ rfl ?_
  refine zx_iconst (pc' := 8) (n := 0) jd_Renames_nearest_7 rfl ?_
  refine jw_istore (pc' := 10) (lc' := [(0, _), (1, _), (2, _), (3, _), (4, _), (5, _), (6, _)]) jd_Renames_nearest_8 (Nat.le_of_ble_eq_true rfl) ⟨rfl, rfl, rfl, rfl, rfl, rfl, rfl, trivial⟩ rfl ?_
  have loop : ∀ (m i : Nat) (s : zS) (w : Int × Int), i + m = 12 → neP A B u.2.1 w → zF σ s (r + 4) 1 → it (neStep A B u.2.1 p) m i w = neF A B u.2.1 p → jw_X mi_Renames_nearest o k 0 0 10 [(0, .ref r), (1, .ref t1), (2, .int (iI p)), (3, .ref t2), (4, .int (iI w.1)), (5, .int (iI w.2)), (6, .int (iI i))] [] (mm o s) hs := by
    intro m
    induction m with
    | zero =>
      intro i s w hi hw hF he
      have hlo := hw.lo
      have he : w = neF A B u.2.1 p := he
      have e2 : ∀ q, q < 12 → iv s (r + 2) q = u.2.1 q := fun q hq => (iv_cell (hF _ (by omega)) q).trans (hr2 q hq)
      have e3 : iv s r 3 = u.2.2 := (iv_cell (hF _ (by omega)) _).trans hr3
      refine jw_iload (pc' := 12) jd_Renames_nearest_10 rfl rfl ?_
      refine zx_bipush (pc' := 14) (n := 12) jd_Renames_nearest_12 (by decide +kernel) rfl ?_
      refine zx_icmp_ge (tgt := 87) (pc' := 17) (by first | exact rg_iv _ _ _ | omega) (by first | exact rg_iv _ _ _ | omega) jd_Renames_nearest_14 (by decide) rfl (fun q => ?_) (fun q => ?_)
      rotate_left
      · exfalso; omega
      refine jw_iload (pc' := 89) jd_Renames_nearest_87 rfl rfl ?_
      refine zx_if_lt (tgt := 117) (pc' := 92) (by first | exact rg_iv _ _ _ | omega) jd_Renames_nearest_89 (by decide) rfl (fun q2 => ?_) (fun q2 => ?_)
      · refine jw_iload (pc' := 119) jd_Renames_nearest_117 rfl rfl ?_
        refine zx_iret hE jd_Renames_nearest_119 rfl ?_
        refine ⟨by rw [← he], fun q hq => ?_, ?_, hF _ (by omega), hF.mono (by omega) (by omega)⟩
        · rw [← he, if_neg (by omega)]; exact e2 q hq
        · rw [← he, if_pos (by omega)]; exact e3
      · refine jw_iload (pc' := 94) jd_Renames_nearest_92 rfl rfl ?_
        refine zx_bipush (pc' := 96) (n := 12) jd_Renames_nearest_94 (by decide +kernel) rfl ?_
        refine zx_icmp_ge (tgt := 117) (pc' := 99) (by first | exact rg_iv _ _ _ | omega) (by first | exact rg_iv _ _ _ | omega) jd_Renames_nearest_96 (by decide) rfl (fun q3 => ?_) (fun q3 => ?_)
        · exfalso; omega
        refine jw_aload_n (pc' := 100) jd_Renames_nearest_99 rfl rfl rfl ?_
        refine jw_get (pc' := 103) (kf := 1) jc_Renames (by decide) jq_167 jd_Renames_nearest_100 (mc_Renames _ (by assumption)) rfl rfl ?_
        refine jw_iload (pc' := 105) jd_Renames_nearest_103 rfl rfl ?_
        refine jw_iload_n (pc' := 106) jd_Renames_nearest_105 rfl rfl rfl ?_
        refine zx_iast (pc' := 107) (j := w.1.toNat) jd_Renames_nearest_106 (ml_Renames_sources _ (by assumption)) (by omega) (by omega) (Nat.le_of_ble_eq_true rfl) rfl ?_
        refine jw_aload_n (pc' := 108) jd_Renames_nearest_107 rfl rfl rfl ?_
        refine jw_dup (pc' := 109) jd_Renames_nearest_108 rfl rfl ?_
        refine zx_getI (pc' := 112) (kf := 3) jc_Renames (by decide) jq_169 jd_Renames_nearest_109 (mc_Renames _ (by assumption)) rfl rfl ?_
        refine zx_iconst (pc' := 113) (n := 1) jd_Renames_nearest_112 rfl ?_
        refine zx_iadd (pc' := 114) jd_Renames_nearest_113 rfl ?_
        refine zx_putI (pc' := 117) (kf := 3) jc_Renames (by decide) jq_169 jd_Renames_nearest_114 rfl (by decide +kernel) (mc_Renames _ (by assumption)) rfl rfl ?_
        refine jw_iload (pc' := 119) jd_Renames_nearest_117 rfl rfl ?_
        refine zx_iret hE jd_Renames_nearest_119 rfl ?_
        refine ⟨by rw [← he], fun q hq => ?_, ?_, ?_, ?_⟩
        · rw [iv_si (by rw [iv_si (by omega), if_neg (by omega)]; omega), if_neg (by omega), iv_si (by omega), ← he]
          by_cases q9 : (q : Int) = w.1
          · rw [if_pos ⟨rfl, by omega⟩, if_pos q9]
          · rw [if_neg (by omega), if_neg q9]; exact e2 q hq
        · rw [iv_si (by rw [iv_si (by omega), if_neg (by omega)]; omega), if_pos ⟨rfl, rfl⟩, iv_si (by omega), if_neg (by omega), ← he, if_neg (by omega), e3]
        · rw [si_ne (by omega), si_ne (by omega)]; exact hF _ (by omega)
        · exact ((hF.mono (by omega) (by omega) : zF σ s r 7).si (by omega)).si (by omega)
    | succ m ih =>
      intro i s w hi hw hF he
      have hlo := hw.lo
      have hw9 := hw
      obtain ⟨hw1, hw2, -⟩ := hw9
      have okAi := (okA i (by omega)).p
      have okBi := (okB i (by omega)).p
      have sA := hA.fr hF (by omega)
      have sB := hB.fr hF (by omega)
      have e2 : iv s (r + 2) i = u.2.1 i := (iv_cell (hF _ (by omega)) i).trans (hr2 i (by omega))
      have hst := neStep_P (S := u.2.1) okA okB hp i w (by omega) hw
      have he : it (neStep A B u.2.1 p) m (i + 1) (neStep A B u.2.1 p i w) = neF A B u.2.1 p := he
      have gn := nearV_rng (okA p hp) (okB i (by omega))
      refine jw_iload (pc' := 12) jd_Renames_nearest_10 rfl rfl ?_
      refine zx_bipush (pc' := 14) (n := 12) jd_Renames_nearest_12 (by decide +kernel) rfl ?_
      refine zx_icmp_ge (tgt := 87) (pc' := 17) (by first | exact rg_iv _ _ _ | omega) (by first | exact rg_iv _ _ _ | omega) jd_Renames_nearest_14 (by decide) rfl (fun q => ?_) (fun q => ?_)
      · exfalso; omega
      refine jw_aload_n (pc' := 18) jd_Renames_nearest_17 rfl rfl rfl ?_
      refine jw_iload (pc' := 20) jd_Renames_nearest_18 rfl rfl ?_
      refine zx_callV0 (pc' := 23) hR (t_has sB i (by omega)) jm_Tree_has jq_549 jc_Tree jd_Renames_nearest_20 (mc_Tree _ (by assumption)) rfl rfl (Nat.le_of_ble_eq_true rfl) (by omega) (by decide) rfl rfl ?_
      refine zx_if_eq (tgt := 81) (pc' := 26) (by first | exact rg_iv _ _ _ | omega) jd_Renames_nearest_23 (by decide) rfl (fun q2 => ?_) (fun q2 => ?_)
      · refine zx_iinc (pc' := 84) (lc' := [(0, _), (1, _), (2, _), (3, _), (4, _), (5, _), (6, _)]) jd_Renames_nearest_81 rfl (Nat.le_of_ble_eq_true rfl) ⟨rfl, rfl, rfl, rfl, rfl, rfl, rfl, trivial⟩ rfl ?_
        refine jw_goto (tgt := 10) jd_Renames_nearest_84 (by decide) ?_
        have e : neStep A B u.2.1 p i w = w := by unfold neStep; rw [if_pos q2]
        rw [e] at he
        exact ih (i + 1) s w (by omega) hw hF he
      refine jw_aload_n (pc' := 27) jd_Renames_nearest_26 rfl rfl rfl ?_
      refine jw_iload (pc' := 29) jd_Renames_nearest_27 rfl rfl ?_
      refine zx_callV0 (pc' := 32) hR (t_has sA i (by omega)) jm_Tree_has jq_549 jc_Tree jd_Renames_nearest_29 (mc_Tree _ (by assumption)) rfl rfl (Nat.le_of_ble_eq_true rfl) (by omega) (by decide) rfl rfl ?_
      refine zx_if_ne (tgt := 81) (pc' := 35) (by first | exact rg_iv _ _ _ | omega) jd_Renames_nearest_32 (by decide) rfl (fun q3 => ?_) (fun q3 => ?_)
      · refine zx_iinc (pc' := 84) (lc' := [(0, _), (1, _), (2, _), (3, _), (4, _), (5, _), (6, _)]) jd_Renames_nearest_81 rfl (Nat.le_of_ble_eq_true rfl) ⟨rfl, rfl, rfl, rfl, rfl, rfl, rfl, trivial⟩ rfl ?_
        refine jw_goto (tgt := 10) jd_Renames_nearest_84 (by decide) ?_
        have e : neStep A B u.2.1 p i w = w := by unfold neStep; rw [if_neg q2, if_pos q3]
        rw [e] at he
        exact ih (i + 1) s w (by omega) hw hF he
      refine jw_aload_n (pc' := 36) jd_Renames_nearest_35 rfl rfl rfl ?_
      refine jw_get (pc' := 39) (kf := 1) jc_Renames (by decide) jq_167 jd_Renames_nearest_36 (mc_Renames _ (by assumption)) rfl rfl ?_
      refine jw_iload (pc' := 41) jd_Renames_nearest_39 rfl rfl ?_
      refine zx_iald (pc' := 42) jd_Renames_nearest_41 (ml_Renames_sources _ (by assumption)) rfl (by omega) (Nat.le_of_ble_eq_true rfl) rfl ?_
      refine zx_iconst (pc' := 43) (n := -1) jd_Renames_nearest_42 rfl ?_
      refine zx_icmp_ne (tgt := 81) (pc' := 46) (by first | exact rg_iv _ _ _ | omega) (by first | exact rg_iv _ _ _ | omega) jd_Renames_nearest_43 (by decide) rfl (fun q4 => ?_) (fun q4 => ?_)
      · refine zx_iinc (pc' := 84) (lc' := [(0, _), (1, _), (2, _), (3, _), (4, _), (5, _), (6, _)]) jd_Renames_nearest_81 rfl (Nat.le_of_ble_eq_true rfl) ⟨rfl, rfl, rfl, rfl, rfl, rfl, rfl, trivial⟩ rfl ?_
        refine jw_goto (tgt := 10) jd_Renames_nearest_84 (by decide) ?_
        have e : neStep A B u.2.1 p i w = w := by unfold neStep; rw [if_neg q2, if_neg (by omega), if_pos (by omega)]
        rw [e] at he
        exact ih (i + 1) s w (by omega) hw hF he
      refine jw_aload_n (pc' := 47) jd_Renames_nearest_46 rfl rfl rfl ?_
      refine jw_get (pc' := 50) (kf := 2) jc_Renames (by decide) jq_168 jd_Renames_nearest_47 (mc_Renames _ (by assumption)) rfl rfl ?_
      refine jw_aload_n (pc' := 51) jd_Renames_nearest_50 rfl rfl rfl ?_
      refine jw_iload_n (pc' := 52) jd_Renames_nearest_51 rfl rfl rfl ?_
      refine zx_callV0 (pc' := 55) hR (t_fileAt hAA p hp) jm_Tree_fileAt jq_554 jc_Tree jd_Renames_nearest_52 (mc_Tree _ (by assumption)) rfl rfl (Nat.le_of_ble_eq_true rfl) (by omega) (by decide) rfl rfl ?_
      refine jw_aload_n (pc' := 56) jd_Renames_nearest_55 rfl rfl rfl ?_
      refine jw_iload (pc' := 58) jd_Renames_nearest_56 rfl rfl ?_
      refine zx_callV0 (pc' := 61) hR (t_fileAt hBB i (by omega)) jm_Tree_fileAt jq_554 jc_Tree jd_Renames_nearest_58 (mc_Tree _ (by assumption)) rfl rfl (Nat.le_of_ble_eq_true rfl) (by omega) (by decide) rfl rfl ?_
      refine zx_callV (pc' := 64) hR (m_near hmm (sA.2 p hp) (sB.2 i (by omega)) (by unfold fA; omega) (by unfold fA; omega)) jm_Match_nearnessOf jq_555 jc_Match jd_Renames_nearest_61 (mc_Match _ (by assumption)) rfl rfl (Nat.le_of_ble_eq_true rfl) (by omega) (by decide) rfl (fun v9 s1 q9 => ?_)
      obtain ⟨rfl, f1⟩ := q9
      refine jw_istore (pc' := 66) (lc' := [(0, _), (1, _), (2, _), (3, _), (4, _), (5, _), (6, _), (7, _)]) jd_Renames_nearest_64 (Nat.le_of_ble_eq_true rfl) ⟨rfl, rfl, rfl, rfl, rfl, rfl, rfl, rfl, trivial⟩ rfl ?_
      refine jw_iload (pc' := 68) jd_Renames_nearest_66 rfl rfl ?_
      refine jw_iload (pc' := 70) jd_Renames_nearest_68 rfl rfl ?_
      refine zx_icmp_le (tgt := 81) (pc' := 73) (by first | exact rg_iv _ _ _ | omega) (by first | exact rg_iv _ _ _ | omega) jd_Renames_nearest_70 (by decide) rfl (fun q5 => ?_) (fun q5 => ?_)
      · refine zx_iinc (pc' := 84) (lc' := [(0, _), (1, _), (2, _), (3, _), (4, _), (5, _), (6, _)]) jd_Renames_nearest_81 rfl (Nat.le_of_ble_eq_true rfl) ⟨rfl, rfl, rfl, rfl, rfl, rfl, rfl, trivial⟩ rfl ?_
        refine jw_goto (tgt := 10) jd_Renames_nearest_84 (by decide) ?_
        have e : neStep A B u.2.1 p i w = w := by unfold neStep; rw [if_neg q2, if_neg (by omega), if_neg (by omega), if_neg (by omega)]
        rw [e] at he
        exact ih (i + 1) s1 w (by omega) hw (hF.trans f1 (by omega) (by omega)) he
      · refine jw_iload (pc' := 75) jd_Renames_nearest_73 rfl rfl ?_
        refine jw_istore (pc' := 77) (lc' := [(0, _), (1, _), (2, _), (3, _), (4, _), (6, _), (7, _)]) jd_Renames_nearest_75 (Nat.le_of_ble_eq_true rfl) ⟨rfl, rfl, rfl, rfl, rfl, rfl, rfl, trivial⟩ rfl ?_
        refine jw_iload (pc' := 79) jd_Renames_nearest_77 rfl rfl ?_
        refine jw_istore (pc' := 81) (lc' := [(0, _), (1, _), (2, _), (3, _), (4, _), (5, _), (6, _)]) jd_Renames_nearest_79 (Nat.le_of_ble_eq_true rfl) ⟨rfl, rfl, rfl, rfl, rfl, rfl, rfl, trivial⟩ rfl ?_
        refine zx_iinc (pc' := 84) (lc' := [(0, _), (1, _), (2, _), (3, _), (4, _), (5, _), (6, _)]) jd_Renames_nearest_81 rfl (Nat.le_of_ble_eq_true rfl) ⟨rfl, rfl, rfl, rfl, rfl, rfl, rfl, trivial⟩ rfl ?_
        refine jw_goto (tgt := 10) jd_Renames_nearest_84 (by decide) ?_
        have e : neStep A B u.2.1 p i w = ((i : Int), nearV (A p) (B i)) := by unfold neStep; rw [if_neg q2, if_neg (by omega), if_neg (by omega), if_pos (by omega)]
        rw [e] at he hst
        exact ih (i + 1) s1 _ (by omega) hst (hF.trans f1 (by omega) (by omega)) he
  exact loop 12 0 σ (-1, 59) (by omega) ⟨by simp, by simp, Or.inl rfl⟩ zF.rf rfl
theorem r_trace (hr : isR o r) (hA : TC o σ t1 A) (hB : TC o σ t2 B) (hd1 : r + 7 ≤ t1 ∨ t1 + 28 ≤ r) (hd2 : r + 7 ≤ t2 ∨ t2 + 28 ≤ r) : zSpec mi_Renames_trace 4 o [.ref r, .ref t1, .ref t2] σ (fun v s => v = none ∧ RC o s r (trF A B) ∧ zF σ s r 7) := by
  have hAA := hA.1
  have hBB := hB.1
  have okA : ∀ p, p < 12 → okV (A p) := fun p hp => (hA.2 p hp).2.1
  have okB : ∀ p, p < 12 → okV (B p) := fun p hp => (hB.2 p hp).2.1
  refine z_spec (by decide +kernel) (Nat.le_of_ble_eq_true rfl) rfl (fun k hs hR hE => ?_)
  refine jw_aload_n (pc' := 1) jd_Renames_trace_0 rfl rfl rfl ?_
  refine jw_get (pc' := 4) (kf := 0) jc_Renames (by decide) jq_166 jd_Renames_trace_1 (mc_Renames _ (by assumption)) rfl rfl ?_
  refine zx_iconst (pc' := 5) (n := -1) jd_Renames_trace_4 rfl ?_
  refine zx_callS (pc' := 8) hR (z_fill (n := 12) (fun s => ml_Renames_fates s hr) (by omega) (by omega)) jm_Arrays_fill jq_548 jd_Renames_trace_5 rfl rfl (Nat.le_of_ble_eq_true rfl) (by omega) (by decide) rfl (fun v9 s1 q9 => ?_)
  obtain ⟨rfl, h1, f1⟩ := q9
  refine jw_aload_n (pc' := 9) jd_Renames_trace_8 rfl rfl rfl ?_
  refine jw_get (pc' := 12) (kf := 1) jc_Renames (by decide) jq_167 jd_Renames_trace_9 (mc_Renames _ (by assumption)) rfl rfl ?_
  refine zx_iconst (pc' := 13) (n := -1) jd_Renames_trace_12 rfl ?_
  refine zx_callS (pc' := 16) hR (z_fill (n := 12) (fun s => ml_Renames_sources s hr) (by omega) (by omega)) jm_Arrays_fill jq_548 jd_Renames_trace_13 rfl rfl (Nat.le_of_ble_eq_true rfl) (by omega) (by decide) rfl (fun v9 s2 q9 => ?_)
  obtain ⟨rfl, h2, f2⟩ := q9
  refine jw_aload_n (pc' := 17) jd_Renames_trace_16 rfl rfl rfl ?_
  refine zx_iconst (pc' := 18) (n := 0) jd_Renames_trace_17 rfl ?_
  refine zx_putI (pc' := 21) (kf := 3) jc_Renames (by decide) jq_169 jd_Renames_trace_18 rfl (by decide +kernel) (mc_Renames _ (by assumption)) rfl rfl ?_
  refine zx_iconst (pc' := 22) (n := 0) jd_Renames_trace_21 rfl ?_
  refine jw_istore_n (pc' := 23) (lc' := [(0, _), (1, _), (2, _), (3, _)]) jd_Renames_trace_22 rfl (Nat.le_of_ble_eq_true rfl) ⟨rfl, rfl, rfl, rfl, trivial⟩ rfl ?_
  have loop : ∀ (m i : Nat) (s : zS) (u : zN), i + m = 12 → trP A B i u → RC o s r u → zF σ s r 7 → it (trStep A B) m i u = trF A B → jw_X mi_Renames_trace o k 0 0 23 [(0, .ref r), (1, .ref t1), (2, .ref t2), (3, .int (iI i))] [] (mm o s) hs := by
    intro m
    induction m with
    | zero =>
      intro i s u hi hP hR2 hF he
      refine jw_iload_n (pc' := 24) jd_Renames_trace_23 rfl rfl rfl ?_
      refine zx_bipush (pc' := 26) (n := 12) jd_Renames_trace_24 (by decide +kernel) rfl ?_
      refine zx_icmp_ge (tgt := 68) (pc' := 29) (by first | exact rg_iv _ _ _ | omega) (by first | exact rg_iv _ _ _ | omega) jd_Renames_trace_26 (by decide) rfl (fun q => ?_) (fun q => ?_)
      rotate_left
      · exfalso; omega
      refine zx_vret hE jd_Renames_trace_68 rfl ?_
      have he : u = trF A B := he
      exact ⟨rfl, he ▸ hR2, hF⟩
    | succ m ih =>
      intro i s u hi hP hR2 hF he
      have okAi := (okA i (by omega)).p
      have okBi := (okB i (by omega)).p
      have sA := hA.fr hF (by omega)
      have sB := hB.fr hF (by omega)
      have he : it (trStep A B) m (i + 1) (trStep A B i u) = trF A B := he
      have hst := trStep_P okA okB i u (by omega) hP
      have hlo := (neF_P (S := u.2.1) okA okB (show i < 12 by omega)).lo
      have hn := hP.2.2.1
      have hn2 := hP.2.2.2.1
      refine jw_iload_n (pc' := 24) jd_Renames_trace_23 rfl rfl rfl ?_
      refine zx_bipush (pc' := 26) (n := 12) jd_Renames_trace_24 (by decide +kernel) rfl ?_
      refine zx_icmp_ge (tgt := 68) (pc' := 29) (by first | exact rg_iv _ _ _ | omega) (by first | exact rg_iv _ _ _ | omega) jd_Renames_trace_26 (by decide) rfl (fun q => ?_) (fun q => ?_)
      · exfalso; omega
      refine jw_aload_n (pc' := 30) jd_Renames_trace_29 rfl rfl rfl ?_
      refine jw_iload_n (pc' := 31) jd_Renames_trace_30 rfl rfl rfl ?_
      refine zx_callV0 (pc' := 34) hR (t_has sA i (by omega)) jm_Tree_has jq_549 jc_Tree jd_Renames_trace_31 (mc_Tree _ (by assumption)) rfl rfl (Nat.le_of_ble_eq_true rfl) (by omega) (by decide) rfl rfl ?_
      refine zx_if_eq (tgt := 62) (pc' := 37) (by first | exact rg_iv _ _ _ | omega) jd_Renames_trace_34 (by decide) rfl (fun q2 => ?_) (fun q2 => ?_)
      · refine zx_iinc (pc' := 65) (lc' := [(0, _), (1, _), (2, _), (3, _)]) jd_Renames_trace_62 rfl (Nat.le_of_ble_eq_true rfl) ⟨rfl, rfl, rfl, rfl, trivial⟩ rfl ?_
        refine jw_goto (tgt := 23) jd_Renames_trace_65 (by decide) ?_
        have e : trStep A B i u = u := by unfold trStep; rw [if_pos q2]
        rw [e] at he hst
        exact ih (i + 1) s u (by omega) hst hR2 hF he
      refine jw_aload_n (pc' := 38) jd_Renames_trace_37 rfl rfl rfl ?_
      refine jw_get (pc' := 41) (kf := 0) jc_Renames (by decide) jq_166 jd_Renames_trace_38 (mc_Renames _ (by assumption)) rfl rfl ?_
      refine jw_iload_n (pc' := 42) jd_Renames_trace_41 rfl rfl rfl ?_
      refine jw_aload_n (pc' := 43) jd_Renames_trace_42 rfl rfl rfl ?_
      refine jw_iload_n (pc' := 44) jd_Renames_trace_43 rfl rfl rfl ?_
      refine zx_callV0 (pc' := 47) hR (t_has sB i (by omega)) jm_Tree_has jq_549 jc_Tree jd_Renames_trace_44 (mc_Tree _ (by assumption)) rfl rfl (Nat.le_of_ble_eq_true rfl) (by omega) (by decide) rfl rfl ?_
      refine zx_if_eq (tgt := 54) (pc' := 50) (by first | exact rg_iv _ _ _ | omega) jd_Renames_trace_47 (by decide) rfl (fun q3 => ?_) (fun q3 => ?_)
      · refine jw_aload_n (pc' := 55) jd_Renames_trace_54 rfl rfl rfl ?_
        refine jw_aload_n (pc' := 56) jd_Renames_trace_55 rfl rfl rfl ?_
        refine jw_iload_n (pc' := 57) jd_Renames_trace_56 rfl rfl rfl ?_
        refine jw_aload_n (pc' := 58) jd_Renames_trace_57 rfl rfl rfl ?_
        refine zx_callV (pc' := 61) hR (r_nearest hR2 sA sB hd1 hd2 i (by omega) (by omega)) jm_Renames_nearest jq_550 jc_Renames jd_Renames_trace_58 (mc_Renames _ (by assumption)) rfl rfl (Nat.le_of_ble_eq_true rfl) (by omega) (by decide) rfl (fun v9 s3 q9 => ?_)
        obtain ⟨rfl, g1, g2, g3, g4⟩ := q9
        refine zx_iast (pc' := 62) jd_Renames_trace_61 (ml_Renames_fates _ (by assumption)) rfl (by omega) (Nat.le_of_ble_eq_true rfl) rfl ?_
        refine zx_iinc (pc' := 65) (lc' := [(0, _), (1, _), (2, _), (3, _)]) jd_Renames_trace_62 rfl (Nat.le_of_ble_eq_true rfl) ⟨rfl, rfl, rfl, rfl, trivial⟩ rfl ?_
        refine jw_goto (tgt := 23) jd_Renames_trace_65 (by decide) ?_
        refine ih (i + 1) _ _ (by omega) hst ⟨hr, fun q hq => ?_, fun q hq => ?_, ?_⟩ ((hF.trans g4 (by omega) (by omega)).si (by omega)) he
        · unfold trStep; rw [if_neg q2, if_neg (by omega)]; dsimp only
          rw [iv_si (by omega)]
          by_cases q9 : q = i
          · rw [if_pos ⟨rfl, q9⟩, if_pos q9]
          · rw [if_neg (fun z => q9 z.2), if_neg q9, iv_cell g3]; exact hR2.2.1 q hq
        · unfold trStep; rw [if_neg q2, if_neg (by omega)]; dsimp only
          rw [iv_si (by omega), if_neg (by omega)]; exact g1 q hq
        · unfold trStep; rw [if_neg q2, if_neg (by omega)]; dsimp only
          rw [iv_si (by omega), if_neg (by omega)]; exact g2
      · refine jw_iload_n (pc' := 51) jd_Renames_trace_50 rfl rfl rfl ?_
        refine jw_goto (tgt := 61) jd_Renames_trace_51 (by decide) ?_
        refine zx_iast (pc' := 62) jd_Renames_trace_61 (ml_Renames_fates _ (by assumption)) rfl (by omega) (Nat.le_of_ble_eq_true rfl) rfl ?_
        refine zx_iinc (pc' := 65) (lc' := [(0, _), (1, _), (2, _), (3, _)]) jd_Renames_trace_62 rfl (Nat.le_of_ble_eq_true rfl) ⟨rfl, rfl, rfl, rfl, trivial⟩ rfl ?_
        refine jw_goto (tgt := 23) jd_Renames_trace_65 (by decide) ?_
        refine ih (i + 1) _ _ (by omega) hst ⟨hr, fun q hq => ?_, fun q hq => ?_, ?_⟩ (hF.si (by omega)) he
        · unfold trStep; rw [if_neg q2, if_pos q3]; dsimp only
          rw [iv_si (by omega)]
          by_cases q9 : q = i
          · rw [if_pos ⟨rfl, q9⟩, if_pos q9]
          · rw [if_neg (fun z => q9 z.2), if_neg q9]; exact hR2.2.1 q hq
        · unfold trStep; rw [if_neg q2, if_pos q3]; dsimp only
          rw [iv_si (by omega), if_neg (by omega)]; exact hR2.2.2.1 q hq
        · unfold trStep; rw [if_neg q2, if_pos q3]; dsimp only
          rw [iv_si (by omega), if_neg (by omega)]; exact hR2.2.2.2
  refine loop 12 0 _ (fun _ => -1, fun _ => -1, 0) (by omega) tr0_P ⟨hr, fun q hq => ?_, fun q hq => ?_, ?_⟩ (((f1.mono (by omega) (by omega) : zF σ s1 r 7).trans f2 (by omega) (by omega)).si (by omega)) rfl
  · rw [iv_si (by omega), if_neg (by omega), iv_cell (f2 _ (by omega))]; exact h1 q hq
  · rw [iv_si (by omega), if_neg (by omega)]; exact h2 q hq
  · rw [iv_si (by omega), if_pos ⟨rfl, rfl⟩]
theorem r_fate {u : zN} (h : RC o σ r u) (p : Nat) (hp : p < 12) : zRo mi_Renames_fateOf 0 o [.ref r, .int (iI p)] σ (some (.int (iI (u.1 p)))) := by
  have hr := h.1
  have e := h.2.1 p hp
  refine z_spec (by decide +kernel) (Nat.le_of_ble_eq_true rfl) rfl (fun k hs hR hE => ?_)
  refine jw_iload_n (pc' := 1) jd_Renames_fateOf_0 rfl rfl rfl ?_
  refine zx_if_lt (tgt := 19) (pc' := 4) (by first | exact rg_iv _ _ _ | omega) jd_Renames_fateOf_1 (by decide) rfl (fun q => ?_) (fun q => ?_)
  · exfalso; omega
  refine jw_iload_n (pc' := 5) jd_Renames_fateOf_4 rfl rfl rfl ?_
  refine zx_bipush (pc' := 7) (n := 12) jd_Renames_fateOf_5 (by decide +kernel) rfl ?_
  refine zx_icmp_ge (tgt := 19) (pc' := 10) (by first | exact rg_iv _ _ _ | omega) (by first | exact rg_iv _ _ _ | omega) jd_Renames_fateOf_7 (by decide) rfl (fun q2 => ?_) (fun q2 => ?_)
  · exfalso; omega
  refine jw_aload_n (pc' := 11) jd_Renames_fateOf_10 rfl rfl rfl ?_
  refine jw_get (pc' := 14) (kf := 0) jc_Renames (by decide) jq_166 jd_Renames_fateOf_11 (mc_Renames _ (by assumption)) rfl rfl ?_
  refine jw_iload_n (pc' := 15) jd_Renames_fateOf_14 rfl rfl rfl ?_
  refine zx_iald (pc' := 16) jd_Renames_fateOf_15 (ml_Renames_fates _ (by assumption)) rfl (by omega) (Nat.le_of_ble_eq_true rfl) rfl ?_
  refine jw_goto (tgt := 20) jd_Renames_fateOf_16 (by decide) ?_
  refine zx_iret hE jd_Renames_fateOf_20 rfl ?_
  exact ⟨by rw [e], rfl⟩
theorem r_source {u : zN} (h : RC o σ r u) (p : Nat) (hp : p < 12) : zRo mi_Renames_sourceOf 0 o [.ref r, .int (iI p)] σ (some (.int (iI (u.2.1 p)))) := by
  have hr := h.1
  have e := h.2.2.1 p hp
  refine z_spec (by decide +kernel) (Nat.le_of_ble_eq_true rfl) rfl (fun k hs hR hE => ?_)
  refine jw_iload_n (pc' := 1) jd_Renames_sourceOf_0 rfl rfl rfl ?_
  refine zx_if_lt (tgt := 19) (pc' := 4) (by first | exact rg_iv _ _ _ | omega) jd_Renames_sourceOf_1 (by decide) rfl (fun q => ?_) (fun q => ?_)
  · exfalso; omega
  refine jw_iload_n (pc' := 5) jd_Renames_sourceOf_4 rfl rfl rfl ?_
  refine zx_bipush (pc' := 7) (n := 12) jd_Renames_sourceOf_5 (by decide +kernel) rfl ?_
  refine zx_icmp_ge (tgt := 19) (pc' := 10) (by first | exact rg_iv _ _ _ | omega) (by first | exact rg_iv _ _ _ | omega) jd_Renames_sourceOf_7 (by decide) rfl (fun q2 => ?_) (fun q2 => ?_)
  · exfalso; omega
  refine jw_aload_n (pc' := 11) jd_Renames_sourceOf_10 rfl rfl rfl ?_
  refine jw_get (pc' := 14) (kf := 1) jc_Renames (by decide) jq_167 jd_Renames_sourceOf_11 (mc_Renames _ (by assumption)) rfl rfl ?_
  refine jw_iload_n (pc' := 15) jd_Renames_sourceOf_14 rfl rfl rfl ?_
  refine zx_iald (pc' := 16) jd_Renames_sourceOf_15 (ml_Renames_sources _ (by assumption)) rfl (by omega) (Nat.le_of_ble_eq_true rfl) rfl ?_
  refine jw_goto (tgt := 20) jd_Renames_sourceOf_16 (by decide) ?_
  refine zx_iret hE jd_Renames_sourceOf_20 rfl ?_
  exact ⟨by rw [e], rfl⟩
theorem r_many {u : zN} (h : RC o σ r u) : zRo mi_Renames_howMany 0 o [.ref r] σ (some (.int (iI u.2.2))) := by
  have hr := h.1
  have e := h.2.2.2
  refine z_spec (by decide +kernel) (Nat.le_of_ble_eq_true rfl) rfl (fun k hs hR hE => ?_)
  refine jw_aload_n (pc' := 1) jd_Renames_howMany_0 rfl rfl rfl ?_
  refine zx_getI (pc' := 4) (kf := 3) jc_Renames (by decide) jq_169 jd_Renames_howMany_1 (mc_Renames _ (by assumption)) rfl rfl ?_
  refine zx_iret hE jd_Renames_howMany_4 rfl ?_
  exact ⟨by rw [e], rfl⟩
end
