theorem jd_ArrayList_init_0 : decode mi_ArrayList_init.2.1 0 = .ok (.aload_n 0, 1) := by decide +kernel
theorem jd_ArrayList_init_1 : decode mi_ArrayList_init.2.1 1 = .ok (.invokespecial 1, 3) := by decide +kernel
theorem jd_ArrayList_init_4 : decode mi_ArrayList_init.2.1 4 = .ok (.aload_n 0, 1) := by decide +kernel
theorem jd_ArrayList_init_5 : decode mi_ArrayList_init.2.1 5 = .ok (.getstatic 39, 3) := by decide +kernel
theorem jd_ArrayList_init_8 : decode mi_ArrayList_init.2.1 8 = .ok (.putfield 9, 3) := by decide +kernel
theorem jd_ArrayList_init_11 : decode mi_ArrayList_init.2.1 11 = .ok (.return_, 1) := by decide +kernel
theorem jd_AbstractList_init_0 : decode mi_AbstractList_init.2.1 0 = .ok (.aload_n 0, 1) := by decide +kernel
theorem jd_AbstractList_init_1 : decode mi_AbstractList_init.2.1 1 = .ok (.invokespecial 1, 3) := by decide +kernel
theorem jd_AbstractList_init_4 : decode mi_AbstractList_init.2.1 4 = .ok (.aload_n 0, 1) := by decide +kernel
theorem jd_AbstractList_init_5 : decode mi_AbstractList_init.2.1 5 = .ok (.iconst 0, 1) := by decide +kernel
theorem jd_AbstractList_init_6 : decode mi_AbstractList_init.2.1 6 = .ok (.putfield 7, 3) := by decide +kernel
theorem jd_AbstractList_init_9 : decode mi_AbstractList_init.2.1 9 = .ok (.return_, 1) := by decide +kernel
theorem jd_AbstractCollection_init_0 : decode mi_AbstractCollection_init.2.1 0 = .ok (.aload_n 0, 1) := by decide +kernel
theorem jd_AbstractCollection_init_1 : decode mi_AbstractCollection_init.2.1 1 = .ok (.invokespecial 1, 3) := by decide +kernel
theorem jd_AbstractCollection_init_4 : decode mi_AbstractCollection_init.2.1 4 = .ok (.return_, 1) := by decide +kernel
theorem jd_ArrayList_add0_0 : decode mi_ArrayList_add0.2.1 0 = .ok (.aload_n 0, 1) := by decide +kernel
theorem jd_ArrayList_add0_1 : decode mi_ArrayList_add0.2.1 1 = .ok (.dup, 1) := by decide +kernel
theorem jd_ArrayList_add0_2 : decode mi_ArrayList_add0.2.1 2 = .ok (.getfield 63, 3) := by decide +kernel
theorem jd_ArrayList_add0_5 : decode mi_ArrayList_add0.2.1 5 = .ok (.iconst 1, 1) := by decide +kernel
theorem jd_ArrayList_add0_6 : decode mi_ArrayList_add0.2.1 6 = .ok (.iadd, 1) := by decide +kernel
theorem jd_ArrayList_add0_7 : decode mi_ArrayList_add0.2.1 7 = .ok (.putfield 63, 3) := by decide +kernel
theorem jd_ArrayList_add0_10 : decode mi_ArrayList_add0.2.1 10 = .ok (.aload_n 0, 1) := by decide +kernel
theorem jd_ArrayList_add0_11 : decode mi_ArrayList_add0.2.1 11 = .ok (.aload_n 1, 1) := by decide +kernel
theorem jd_ArrayList_add0_12 : decode mi_ArrayList_add0.2.1 12 = .ok (.aload_n 0, 1) := by decide +kernel
theorem jd_ArrayList_add0_13 : decode mi_ArrayList_add0.2.1 13 = .ok (.getfield 9, 3) := by decide +kernel
theorem jd_ArrayList_add0_16 : decode mi_ArrayList_add0.2.1 16 = .ok (.aload_n 0, 1) := by decide +kernel
theorem jd_ArrayList_add0_17 : decode mi_ArrayList_add0.2.1 17 = .ok (.getfield 48, 3) := by decide +kernel
theorem jd_ArrayList_add0_20 : decode mi_ArrayList_add0.2.1 20 = .ok (.invokevirtual 131, 3) := by decide +kernel
theorem jd_ArrayList_add0_23 : decode mi_ArrayList_add0.2.1 23 = .ok (.iconst 1, 1) := by decide +kernel
theorem jd_ArrayList_add0_24 : decode mi_ArrayList_add0.2.1 24 = .ok (.ireturn, 1) := by decide +kernel
theorem jd_ArrayList_add1_0 : decode mi_ArrayList_add1.2.1 0 = .ok (.iload_n 3, 1) := by decide +kernel
theorem jd_ArrayList_add1_1 : decode mi_ArrayList_add1.2.1 1 = .ok (.aload_n 2, 1) := by decide +kernel
theorem jd_ArrayList_add1_2 : decode mi_ArrayList_add1.2.1 2 = .ok (.arraylength, 1) := by decide +kernel
theorem jd_ArrayList_add1_3 : decode mi_ArrayList_add1.2.1 3 = .ok (.if_icmp .ne 8, 3) := by decide +kernel
theorem jd_ArrayList_add1_6 : decode mi_ArrayList_add1.2.1 6 = .ok (.aload_n 0, 1) := by decide +kernel
theorem jd_ArrayList_add1_7 : decode mi_ArrayList_add1.2.1 7 = .ok (.invokevirtual 129, 3) := by decide +kernel
theorem jd_ArrayList_add1_10 : decode mi_ArrayList_add1.2.1 10 = .ok (.astore_n 2, 1) := by decide +kernel
theorem jd_ArrayList_add1_11 : decode mi_ArrayList_add1.2.1 11 = .ok (.aload_n 2, 1) := by decide +kernel
theorem jd_ArrayList_add1_12 : decode mi_ArrayList_add1.2.1 12 = .ok (.iload_n 3, 1) := by decide +kernel
theorem jd_ArrayList_add1_13 : decode mi_ArrayList_add1.2.1 13 = .ok (.aload_n 1, 1) := by decide +kernel
theorem jd_ArrayList_add1_14 : decode mi_ArrayList_add1.2.1 14 = .ok (.aastore, 1) := by decide +kernel
theorem jd_ArrayList_add1_15 : decode mi_ArrayList_add1.2.1 15 = .ok (.aload_n 0, 1) := by decide +kernel
theorem jd_ArrayList_add1_16 : decode mi_ArrayList_add1.2.1 16 = .ok (.iload_n 3, 1) := by decide +kernel
theorem jd_ArrayList_add1_17 : decode mi_ArrayList_add1.2.1 17 = .ok (.iconst 1, 1) := by decide +kernel
theorem jd_ArrayList_add1_18 : decode mi_ArrayList_add1.2.1 18 = .ok (.iadd, 1) := by decide +kernel
theorem jd_ArrayList_add1_19 : decode mi_ArrayList_add1.2.1 19 = .ok (.putfield 48, 3) := by decide +kernel
theorem jd_ArrayList_add1_22 : decode mi_ArrayList_add1.2.1 22 = .ok (.return_, 1) := by decide +kernel
theorem jd_ArrayList_grow0_0 : decode mi_ArrayList_grow0.2.1 0 = .ok (.aload_n 0, 1) := by decide +kernel
theorem jd_ArrayList_grow0_1 : decode mi_ArrayList_grow0.2.1 1 = .ok (.aload_n 0, 1) := by decide +kernel
theorem jd_ArrayList_grow0_2 : decode mi_ArrayList_grow0.2.1 2 = .ok (.getfield 48, 3) := by decide +kernel
theorem jd_ArrayList_grow0_5 : decode mi_ArrayList_grow0.2.1 5 = .ok (.iconst 1, 1) := by decide +kernel
theorem jd_ArrayList_grow0_6 : decode mi_ArrayList_grow0.2.1 6 = .ok (.iadd, 1) := by decide +kernel
theorem jd_ArrayList_grow0_7 : decode mi_ArrayList_grow0.2.1 7 = .ok (.invokevirtual 69, 3) := by decide +kernel
theorem jd_ArrayList_grow0_10 : decode mi_ArrayList_grow0.2.1 10 = .ok (.areturn, 1) := by decide +kernel
theorem jd_ArrayList_grow1_0 : decode mi_ArrayList_grow1.2.1 0 = .ok (.aload_n 0, 1) := by decide +kernel
theorem jd_ArrayList_grow1_1 : decode mi_ArrayList_grow1.2.1 1 = .ok (.getfield 9, 3) := by decide +kernel
theorem jd_ArrayList_grow1_4 : decode mi_ArrayList_grow1.2.1 4 = .ok (.arraylength, 1) := by decide +kernel
theorem jd_ArrayList_grow1_5 : decode mi_ArrayList_grow1.2.1 5 = .ok (.istore_n 2, 1) := by decide +kernel
theorem jd_ArrayList_grow1_6 : decode mi_ArrayList_grow1.2.1 6 = .ok (.iload_n 2, 1) := by decide +kernel
theorem jd_ArrayList_grow1_7 : decode mi_ArrayList_grow1.2.1 7 = .ok (.ifCond .gt 13, 3) := by decide +kernel
theorem jd_ArrayList_grow1_10 : decode mi_ArrayList_grow1.2.1 10 = .ok (.aload_n 0, 1) := by decide +kernel
theorem jd_ArrayList_grow1_11 : decode mi_ArrayList_grow1.2.1 11 = .ok (.getfield 9, 3) := by decide +kernel
theorem jd_ArrayList_grow1_14 : decode mi_ArrayList_grow1.2.1 14 = .ok (.getstatic 39, 3) := by decide +kernel
theorem jd_ArrayList_grow1_17 : decode mi_ArrayList_grow1.2.1 17 = .ok (.if_acmp .eq 28, 3) := by decide +kernel
theorem jd_ArrayList_grow1_20 : decode mi_ArrayList_grow1.2.1 20 = .ok (.iload_n 2, 1) := by decide +kernel
theorem jd_ArrayList_grow1_21 : decode mi_ArrayList_grow1.2.1 21 = .ok (.iload_n 1, 1) := by decide +kernel
theorem jd_ArrayList_grow1_22 : decode mi_ArrayList_grow1.2.1 22 = .ok (.iload_n 2, 1) := by decide +kernel
theorem jd_ArrayList_grow1_23 : decode mi_ArrayList_grow1.2.1 23 = .ok (.isub, 1) := by decide +kernel
theorem jd_ArrayList_grow1_24 : decode mi_ArrayList_grow1.2.1 24 = .ok (.iload_n 2, 1) := by decide +kernel
theorem jd_ArrayList_grow1_25 : decode mi_ArrayList_grow1.2.1 25 = .ok (.iconst 1, 1) := by decide +kernel
theorem jd_ArrayList_grow1_26 : decode mi_ArrayList_grow1.2.1 26 = .ok (.ishr, 1) := by decide +kernel
theorem jd_ArrayList_grow1_27 : decode mi_ArrayList_grow1.2.1 27 = .ok (.invokestatic 73, 3) := by decide +kernel
theorem jd_ArrayList_grow1_30 : decode mi_ArrayList_grow1.2.1 30 = .ok (.istore_n 3, 1) := by decide +kernel
theorem jd_ArrayList_grow1_31 : decode mi_ArrayList_grow1.2.1 31 = .ok (.aload_n 0, 1) := by decide +kernel
theorem jd_ArrayList_grow1_32 : decode mi_ArrayList_grow1.2.1 32 = .ok (.aload_n 0, 1) := by decide +kernel
theorem jd_ArrayList_grow1_33 : decode mi_ArrayList_grow1.2.1 33 = .ok (.getfield 9, 3) := by decide +kernel
theorem jd_ArrayList_grow1_36 : decode mi_ArrayList_grow1.2.1 36 = .ok (.iload_n 3, 1) := by decide +kernel
theorem jd_ArrayList_grow1_37 : decode mi_ArrayList_grow1.2.1 37 = .ok (.invokestatic 66, 3) := by decide +kernel
theorem jd_ArrayList_grow1_40 : decode mi_ArrayList_grow1.2.1 40 = .ok (.dup_x1, 1) := by decide +kernel
theorem jd_ArrayList_grow1_41 : decode mi_ArrayList_grow1.2.1 41 = .ok (.putfield 9, 3) := by decide +kernel
theorem jd_ArrayList_grow1_44 : decode mi_ArrayList_grow1.2.1 44 = .ok (.areturn, 1) := by decide +kernel
theorem jd_ArrayList_grow1_45 : decode mi_ArrayList_grow1.2.1 45 = .ok (.aload_n 0, 1) := by decide +kernel
theorem jd_ArrayList_grow1_46 : decode mi_ArrayList_grow1.2.1 46 = .ok (.bipush 10, 2) := by decide +kernel
theorem jd_ArrayList_grow1_48 : decode mi_ArrayList_grow1.2.1 48 = .ok (.iload_n 1, 1) := by decide +kernel
theorem jd_ArrayList_grow1_49 : decode mi_ArrayList_grow1.2.1 49 = .ok (.invokestatic 79, 3) := by decide +kernel
theorem jd_ArrayList_grow1_52 : decode mi_ArrayList_grow1.2.1 52 = .ok (.anewarray 7, 3) := by decide +kernel
theorem jd_ArrayList_grow1_55 : decode mi_ArrayList_grow1.2.1 55 = .ok (.dup_x1, 1) := by decide +kernel
theorem jd_ArrayList_grow1_56 : decode mi_ArrayList_grow1.2.1 56 = .ok (.putfield 9, 3) := by decide +kernel
theorem jd_ArrayList_grow1_59 : decode mi_ArrayList_grow1.2.1 59 = .ok (.areturn, 1) := by decide +kernel
theorem jd_ArrayList_get_0 : decode mi_ArrayList_get.2.1 0 = .ok (.iload_n 1, 1) := by decide +kernel
theorem jd_ArrayList_get_1 : decode mi_ArrayList_get.2.1 1 = .ok (.aload_n 0, 1) := by decide +kernel
theorem jd_ArrayList_get_2 : decode mi_ArrayList_get.2.1 2 = .ok (.getfield 48, 3) := by decide +kernel
theorem jd_ArrayList_get_5 : decode mi_ArrayList_get.2.1 5 = .ok (.invokestatic 118, 3) := by decide +kernel
theorem jd_ArrayList_get_8 : decode mi_ArrayList_get.2.1 8 = .ok (.pop, 1) := by decide +kernel
theorem jd_ArrayList_get_9 : decode mi_ArrayList_get.2.1 9 = .ok (.aload_n 0, 1) := by decide +kernel
theorem jd_ArrayList_get_10 : decode mi_ArrayList_get.2.1 10 = .ok (.iload_n 1, 1) := by decide +kernel
theorem jd_ArrayList_get_11 : decode mi_ArrayList_get.2.1 11 = .ok (.invokevirtual 123, 3) := by decide +kernel
theorem jd_ArrayList_get_14 : decode mi_ArrayList_get.2.1 14 = .ok (.areturn, 1) := by decide +kernel
theorem jd_ArrayList_elementData_0 : decode mi_ArrayList_elementData.2.1 0 = .ok (.aload_n 0, 1) := by decide +kernel
theorem jd_ArrayList_elementData_1 : decode mi_ArrayList_elementData.2.1 1 = .ok (.getfield 9, 3) := by decide +kernel
theorem jd_ArrayList_elementData_4 : decode mi_ArrayList_elementData.2.1 4 = .ok (.iload_n 1, 1) := by decide +kernel
theorem jd_ArrayList_elementData_5 : decode mi_ArrayList_elementData.2.1 5 = .ok (.aaload, 1) := by decide +kernel
theorem jd_ArrayList_elementData_6 : decode mi_ArrayList_elementData.2.1 6 = .ok (.areturn, 1) := by decide +kernel
theorem jd_ArrayList_size_0 : decode mi_ArrayList_size.2.1 0 = .ok (.aload_n 0, 1) := by decide +kernel
theorem jd_ArrayList_size_1 : decode mi_ArrayList_size.2.1 1 = .ok (.getfield 48, 3) := by decide +kernel
theorem jd_ArrayList_size_4 : decode mi_ArrayList_size.2.1 4 = .ok (.ireturn, 1) := by decide +kernel
theorem jd_ArrayList_isEmpty_0 : decode mi_ArrayList_isEmpty.2.1 0 = .ok (.aload_n 0, 1) := by decide +kernel
theorem jd_ArrayList_isEmpty_1 : decode mi_ArrayList_isEmpty.2.1 1 = .ok (.getfield 48, 3) := by decide +kernel
theorem jd_ArrayList_isEmpty_4 : decode mi_ArrayList_isEmpty.2.1 4 = .ok (.ifCond .ne 7, 3) := by decide +kernel
theorem jd_ArrayList_isEmpty_7 : decode mi_ArrayList_isEmpty.2.1 7 = .ok (.iconst 1, 1) := by decide +kernel
theorem jd_ArrayList_isEmpty_8 : decode mi_ArrayList_isEmpty.2.1 8 = .ok (.goto 4, 3) := by decide +kernel
theorem jd_ArrayList_isEmpty_11 : decode mi_ArrayList_isEmpty.2.1 11 = .ok (.iconst 0, 1) := by decide +kernel
theorem jd_ArrayList_isEmpty_12 : decode mi_ArrayList_isEmpty.2.1 12 = .ok (.ireturn, 1) := by decide +kernel
theorem jd_Objects_checkIndex_0 : decode mi_Objects_checkIndex.2.1 0 = .ok (.iload_n 0, 1) := by decide +kernel
theorem jd_Objects_checkIndex_1 : decode mi_Objects_checkIndex.2.1 1 = .ok (.iload_n 1, 1) := by decide +kernel
theorem jd_Objects_checkIndex_2 : decode mi_Objects_checkIndex.2.1 2 = .ok (.aconst_null, 1) := by decide +kernel
theorem jd_Objects_checkIndex_3 : decode mi_Objects_checkIndex.2.1 3 = .ok (.invokestatic 105, 3) := by decide +kernel
theorem jd_Objects_checkIndex_6 : decode mi_Objects_checkIndex.2.1 6 = .ok (.ireturn, 1) := by decide +kernel
theorem jd_Preconditions_checkIndex_0 : decode mi_Preconditions_checkIndex.2.1 0 = .ok (.iload_n 0, 1) := by decide +kernel
theorem jd_Preconditions_checkIndex_1 : decode mi_Preconditions_checkIndex.2.1 1 = .ok (.ifCond .lt 8, 3) := by decide +kernel
theorem jd_Preconditions_checkIndex_4 : decode mi_Preconditions_checkIndex.2.1 4 = .ok (.iload_n 0, 1) := by decide +kernel
theorem jd_Preconditions_checkIndex_5 : decode mi_Preconditions_checkIndex.2.1 5 = .ok (.iload_n 1, 1) := by decide +kernel
theorem jd_Preconditions_checkIndex_6 : decode mi_Preconditions_checkIndex.2.1 6 = .ok (.if_icmp .lt 10, 3) := by decide +kernel
theorem jd_Preconditions_checkIndex_9 : decode mi_Preconditions_checkIndex.2.1 9 = .ok (.aload_n 2, 1) := by decide +kernel
theorem jd_Preconditions_checkIndex_10 : decode mi_Preconditions_checkIndex.2.1 10 = .ok (.iload_n 0, 1) := by decide +kernel
theorem jd_Preconditions_checkIndex_11 : decode mi_Preconditions_checkIndex.2.1 11 = .ok (.iload_n 1, 1) := by decide +kernel
theorem jd_Preconditions_checkIndex_12 : decode mi_Preconditions_checkIndex.2.1 12 = .ok (.invokestatic 95, 3) := by decide +kernel
theorem jd_Preconditions_checkIndex_15 : decode mi_Preconditions_checkIndex.2.1 15 = .ok (.athrow, 1) := by decide +kernel
theorem jd_Preconditions_checkIndex_16 : decode mi_Preconditions_checkIndex.2.1 16 = .ok (.iload_n 0, 1) := by decide +kernel
theorem jd_Preconditions_checkIndex_17 : decode mi_Preconditions_checkIndex.2.1 17 = .ok (.ireturn, 1) := by decide +kernel
/-- the old cells are as they were -/
def jw_Nw (μ μ' : jw_Mem) (h : Nat) : Prop := ∀ q, q < h → μ' q = μ q
section
variable {mi : jw_M} {o : jw_O} {k : jw_K} {kc ks pc pc' : Nat} {lc : List (Nat × Value)} {st rest : List Value} {μ : jw_Mem} {hs : Nat}
theorem jw_gets {idx : Nat} (hd : decode mi.2.1 pc = .ok (.getstatic idx, 3)) (hw : Cond.fieldLink mi.1.cls idx "java/util/ArrayList" "DEFAULTCAPACITY_EMPTY_ELEMENTDATA" "[Ljava/lang/Object;" ∈ jw_T) (hp : pc + 3 = pc') (kk : jw_X mi o k kc ks pc' lc (.ref o.2.2.2.2 :: st) μ hs) : jw_X mi o k kc ks pc lc st μ hs := by
  subst hp
  intro C0 H locs ls e1 e2 e3 e4
  exact va_gets C0.1 C0.2.1 C0.xB.2.2.2.2.2.2.1 e3 C0.own (C0.ts _ hw) (fun _ h => h) hd (kk C0 H locs ls e1 e2 e3 e4)
theorem jw_alenZ (hd : decode mi.2.1 pc = .ok (.arraylength, 1)) (hp : pc + 1 = pc') (kk : jw_X mi o k kc ks pc' lc (.int (nI 0) :: rest) μ hs) : jw_X mi o k kc ks pc lc (.ref o.2.2.2.2 :: rest) μ hs := by
  subst hp
  intro C0 H locs ls e1 e2 e3 e4
  have hz := (C0.xB.kept e3.2.1).2.2.2.2.2.2.2.2.1
  have hP : va_P o.2.1 jw_cl [(o.2.2.2.2, .inl (o.2.2.1 6, 0, .inr (.inr (.inr (.inr (fun _ => none))))))] H := by
    intro j q hj
    have hl : j < 1 := (List.getElem?_eq_some_iff.mp hj).1
    rw [show j = 0 by omega] at hj
    cases hj
    exact hz
  exact va_alen C0.1 C0.2.1 C0.hK hP 0 6 rfl rfl rfl hd (kk C0 H locs ls e1 e2 e3 e4)
theorem jw_castN {idx : Nat} (hd : decode mi.2.1 pc = .ok (.checkcast idx, 3)) (hp : pc + 3 = pc') (kk : jw_X mi o k kc ks pc' lc (.null :: rest) μ hs) : jw_X mi o k kc ks pc lc (.null :: rest) μ hs := by
  subst hp
  exact fun C0 H locs ls e1 e2 e3 e4 => lv_castN C0.1 C0.2.1 hd (kk C0 H locs ls e1 e2 e3 e4)
theorem jw_aastN {a i : Nat} {cA : ClassId} {C : String} {n : Nat} {f : Nat → Option Nat} {x : Int32} (hd : decode mi.2.1 pc = .ok (.aastore, 1)) (ha : μ a = some (.inl (cA, n, .inr (.inr (.inr (.inr f)))))) (ht : (jw_tys o.2.2.1)[i]? = some (cA, .object C)) (hin : vp_in x n) (hp : pc + 1 = pc') (kk : ∀ μ' : jw_Mem, μ' a = some (.inl (cA, n, .inr (.inr (.inr (.inr (va_up f x.toNatClampNeg none)))))) → (∀ q, q ≠ a → μ' q = μ q) → jw_X mi o k kc ks pc' lc rest μ' hs) : jw_X mi o k kc ks pc lc (.null :: .int x :: .ref a :: rest) μ hs := by
  subst hp
  intro C0 H locs ls e1 e2 e3 e4
  refine va_WaastN (C := C) C0.1 C0.2.1 (e2 a _ ha).2 ((C0.hK.2 i _ ht).1 n (fun j => va_rf (f j))) (fun h => by cases h) (by show ¬ (x < 0 ∨ (arrV _ _ _).slots.size ≤ _); rw [arrV_size]; exact hin) rfl rfl hd fun H1 g z oq => ?_
  refine kk _ (va_up_self _ _ _) (fun q hq => va_up_ne _ _ hq) C0 H1 _ ls (z.trans e1) (e2.put ha ?_ oq) (e3.put z oq (e2 a _ ha).1) e4
  show H1[a]? = some (vp_cell _ _)
  rw [g]
  rw [vp_cell_q, vp_cell_q, arrV_store]
  congr 2
  funext q
  by_cases hq : q = x.toNatClampNeg
  · subst hq
    simp [updV, va_up, va_rf]
  · simp [updV, va_up, hq]
theorem jw_newqA {d mc ms N idx : Nat} {n : Int32} (hR : jw_Rm k d mc ms) (hw : Cond.classLink mi.1.cls idx "[I" ∈ jw_T) (hd : decode mi.2.1 pc = .ok (.anewarray idx, 3)) (hn : ¬ n < 0) (hN : n.toNatClampNeg = N) (hb : N * 4 ≤ 536870912) (h1 : kc + 1 ≤ mc) (h2 : ks + N ≤ ms) (hp : pc + 3 = pc') (kk : ∀ μ' : jw_Mem, μ' hs = some (.inl (o.2.2.1 5, N, .inr (.inr (.inr (.inr (fun _ => none)))))) → (∀ q, q ≠ hs → μ' q = μ q) → jw_X mi o k (kc + 1) (ks + N) pc' lc (.ref hs :: rest) μ' (hs + 1)) : jw_X mi o k kc ks pc lc (.int n :: rest) μ hs := by
  subst hp; subst hN
  intro C0 H locs ls e1 e2 e3 e4
  subst e1
  have hlo : o.2.2.2.1 ≤ H.size := Nat.le_trans C0.lo e3.1
  refine W.anewA (t := .int) C0.1 C0.2.1 C0.own (C0.ts _ hw) C0.xB.2.2.2.2.2.2.2.2.2 rfl hd rfl hn hb (Nat.le_trans h1 hR.2.2.1) (Nat.le_trans h2 hR.2.2.2) fun cA kA comp f1 f2 f3 f4 => ?_
  generalize hH1 : H.push ({ cls := cA, slots := Array.replicate n.toNatClampNeg .null, vm := .none } : Cell) = H1
  have z1 : H1.size = H.size + 1 := by rw [← hH1, Array.size_push]
  have g1 : H1[H.size]? = some (arrV cA n.toNatClampNeg (fun _ => .null)) := by rw [← hH1, Array.getElem?_push_size, ← arrV_new]
  have o1 : ∀ q : Nat, q < H.size → H1[q]? = H[q]? := fun q hq => by rw [← hH1, Array.getElem?_push, if_neg (Nat.ne_of_lt hq)]
  have k4 : k.2.2.2.1.vm.findClass ("[" ++ (FieldType.array .int).toString) = some (o.2.2.1 5) := (C0.hK.2 5 (o.2.2.1 5, .array .int) rfl).2
  have hcA : cA = o.2.2.1 5 := Option.some.inj (f1.symm.trans k4)
  subst hcA
  refine kk _ (va_up_self _ _ _) (fun q hq => va_up_ne _ _ hq) C0 H1 _ ls z1 (e2.push hlo ?_ o1) (jw_grow e3 z1 o1) e4
  show H1[H.size]? = some (vp_cell _ _)
  rw [vp_cell_q]
  exact g1
theorem jw_aaldA {a : Nat} {n : Nat} {f : Nat → Option Nat} {x : Int32} {v : Value} (hd : decode mi.2.1 pc = .ok (.aaload, 1)) (ha : μ a = some (.inl (o.2.2.1 5, n, .inr (.inr (.inr (.inr f)))))) (hin : vp_in x n) (hv : va_rf (f x.toNatClampNeg) = v) (hp : pc + 1 = pc') (kk : jw_X mi o k kc ks pc' lc (v :: rest) μ hs) : jw_X mi o k kc ks pc lc (.int x :: .ref a :: rest) μ hs := by
  subst hp; subst hv
  intro C0 H locs ls e1 e2 e3 e4
  have hlt : x.toNatClampNeg < n := Nat.not_le.mp fun q => hin (Or.inr q)
  exact W.aald (v := va_rf (f x.toNatClampNeg)) (ty := .array .int) C0.1 C0.2.1 (e2 a _ ha).2 ((C0.hK.2 5 (o.2.2.1 5, .array .int) rfl).1 n (fun j => va_rf (f j))) rfl (fun q => by cases q) (by show ¬ (x < 0 ∨ (arrV _ _ _).slots.size ≤ _); rw [arrV_size]; exact hin) (by show (arrV _ _ _).slots[_]? = _; rw [arrV_read _ _ hlt]) rfl rfl hd (kk C0 H locs ls e1 e2 e3 e4)
/-- a field of the class above under the class's own name -/
theorem jw_getU {a ci kf N idx : Nat} {fs : List Value} {C ref : String} {T : u_T} {v : Value} (hc : jw_cl[ci]? = some (C, T, N)) (hk : kf < N) (hw : Cond.fieldLink mi.1.cls idx ref (T kf).2.1 (T kf).2.2.1 ∈ jw_T) (hsf : Cond.sameField ref (T kf).1 (T kf).2.1 (T kf).2.2.1 ∈ jw_T) (hd : decode mi.2.1 pc = .ok (.getfield idx, 3)) (ha : μ a = some (.inr (ci, fs))) (hv : fs[kf]? = some v) (hp : pc + 3 = pc') (kk : jw_X mi o k kc ks pc' lc (v :: rest) μ hs) : jw_X mi o k kc ks pc lc (.ref a :: rest) μ hs := by
  subst hp
  exact fun C0 H locs ls e1 e2 e3 e4 => va_get C0.1 C0.2.1 C0.ts (jw_cw _ (List.mem_of_getElem? hc)) C0.own C0.hK (jw_one e2 ha) 0 rfl hc kf hk (C0.ts _ hw) (fun x h9 => u_same (C0.ts _ hsf) x h9) hv hd (kk C0 H locs ls e1 e2 e3 e4)
theorem jw_putU {a ci kf N idx : Nat} {fs fs' : List Value} {C ref : String} {T : u_T} {v : Value} {ty : FieldType} (hc : jw_cl[ci]? = some (C, T, N)) (hk : kf < N) (hw : Cond.fieldLink mi.1.cls idx ref (T kf).2.1 (T kf).2.2.1 ∈ jw_T) (hsf : Cond.sameField ref (T kf).1 (T kf).2.1 (T kf).2.2.1 ∈ jw_T) (hd : decode mi.2.1 pc = .ok (.putfield idx, 3)) (hfin : (T kf).2.2.2 = false) (hty : parseFieldDescriptor (T kf).2.2.1 = some ty) (ha : μ a = some (.inr (ci, fs))) (hn : narrow ty v = v) (hfit : fits ty v = true) (hfs : fs.set kf v = fs') (hl : kf < fs.length) (hp : pc + 3 = pc') (kk : ∀ μ' : jw_Mem, μ' a = some (.inr (ci, fs')) → (∀ q, q ≠ a → μ' q = μ q) → jw_X mi o k kc ks pc' lc rest μ' hs) : jw_X mi o k kc ks pc lc (v :: .ref a :: rest) μ hs := by
  subst hp; subst hfs
  intro C0 H locs ls e1 e2 e3 e4
  have hts := C0.ts
  have hin := jw_cw _ (List.mem_of_getElem? hc)
  have hap := va_apart (own := mi.1.cls) hts hin (jw_ty0 T) (jw_tyok _ (List.mem_of_getElem? hc)) (jw_nmok _ (List.mem_of_getElem? hc)) C0.hK hc
  obtain ⟨r, h1, cell, q1, q2, q3, q4⟩ := (e2 a _ ha).2
  have hr : r = (C, T, N) := Option.some.inj (h1.symm.trans hc)
  subst hr
  obtain ⟨hS, hfc, kC, hkC, hkind⟩ := C0.hK.1 ci _ hc
  obtain ⟨cf, kf1, fi, f, hi, hsl⟩ := hS kf hk
  have hlay := hts _ (hin _ (u_in_lay hk))
  unfold u_lay at hlay
  rw [if_neg (by rw [hfin]; decide)] at hlay
  have hst := (u_facts hfc hkC (u_lays hts hin hk) hi).1
  have h6 := u_store hfc hkC hkind hlay hi hty hn hfit
  refine W.putK C0.1 C0.2.1 (f := f) ⟨C0.own, hts _ hw, ⟨_, _, _, u_same (hts _ hsf) _ hi⟩, hst⟩ (by rw [q2]; exact h6) q1 q3 (by rw [hsl]; exact k2_hasslot (q4 kf hk)) rfl rfl hd fun H' g1 g2 g3 => ?_
  rw [hsl] at g1 ⊢
  exact kk _ (va_up_self _ _ _) (fun q hq => va_up_ne _ _ hq) C0 H' _ ls (g2.trans e1) (e2.put ha ⟨_, hc, t_OB.to (V := updV (vp_V fs) kf v) ⟨_, g1, q2, q3, t_set q4 hap hk v⟩ (fun j _ => vp_updV_set hl v j)⟩ g3) (e3.put g2 g3 (e2 a _ ha).1) e4
end
