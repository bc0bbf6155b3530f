theorem jd_ArrayList_init_0 : decode mi_ArrayList_init.2.1 0 = .ok (.aload_n 0, 1) := by decide +kernel
theorem jd_ArrayList_init_1 : decode mi_ArrayList_init.2.1 1 = .ok (.invokespecial 1, 3) := by decide +kernel
theorem jd_ArrayList_init_4 : decode mi_ArrayList_init.2.1 4 = .ok (.aload_n 0, 1) := by decide +kernel
theorem jd_ArrayList_init_5 : decode mi_ArrayList_init.2.1 5 = .ok (.getstatic 39, 3) := by decide +kernel
theorem jd_ArrayList_init_8 : decode mi_ArrayList_init.2.1 8 = .ok (.putfield 9, 3) := by decide +kernel
theorem jd_ArrayList_init_11 : decode mi_ArrayList_init.2.1 11 = .ok (.return_, 1) := by decide +kernel
theorem jd_AbstractList_init_0 : decode mi_AbstractList_init.2.1 0 = .ok (.aload_n 0, 1) := by decide +kernel
theorem jd_AbstractList_init_1 : decode mi_AbstractList_init.2.1 1 = .ok (.invokespecial 1, 3) := by decide +kernel
theorem jd_AbstractList_init_4 : decode mi_AbstractList_init.2.1 4 = .ok (.aload_n 0, 1) := by decide +kernel
theorem jd_AbstractList_init_5 : decode mi_AbstractList_init.2.1 5 = .ok (.iconst 0, 1) := by decide +kernel
theorem jd_AbstractList_init_6 : decode mi_AbstractList_init.2.1 6 = .ok (.putfield 7, 3) := by decide +kernel
theorem jd_AbstractList_init_9 : decode mi_AbstractList_init.2.1 9 = .ok (.return_, 1) := by decide +kernel
theorem jd_AbstractCollection_init_0 : decode mi_AbstractCollection_init.2.1 0 = .ok (.aload_n 0, 1) := by decide +kernel
theorem jd_AbstractCollection_init_1 : decode mi_AbstractCollection_init.2.1 1 = .ok (.invokespecial 1, 3) := by decide +kernel
theorem jd_AbstractCollection_init_4 : decode mi_AbstractCollection_init.2.1 4 = .ok (.return_, 1) := by decide +kernel
theorem jd_ArrayList_add0_0 : decode mi_ArrayList_add0.2.1 0 = .ok (.aload_n 0, 1) := by decide +kernel
theorem jd_ArrayList_add0_1 : decode mi_ArrayList_add0.2.1 1 = .ok (.dup, 1) := by decide +kernel
theorem jd_ArrayList_add0_2 : decode mi_ArrayList_add0.2.1 2 = .ok (.getfield 63, 3) := by decide +kernel
theorem jd_ArrayList_add0_5 : decode mi_ArrayList_add0.2.1 5 = .ok (.iconst 1, 1) := by decide +kernel
theorem jd_ArrayList_add0_6 : decode mi_ArrayList_add0.2.1 6 = .ok (.iadd, 1) := by decide +kernel
theorem jd_ArrayList_add0_7 : decode mi_ArrayList_add0.2.1 7 = .ok (.putfield 63, 3) := by decide +kernel
theorem jd_ArrayList_add0_10 : decode mi_ArrayList_add0.2.1 10 = .ok (.aload_n 0, 1) := by decide +kernel
theorem jd_ArrayList_add0_11 : decode mi_ArrayList_add0.2.1 11 = .ok (.aload_n 1, 1) := by decide +kernel
theorem jd_ArrayList_add0_12 : decode mi_ArrayList_add0.2.1 12 = .ok (.aload_n 0, 1) := by decide +kernel
theorem jd_ArrayList_add0_13 : decode mi_ArrayList_add0.2.1 13 = .ok (.getfield 9, 3) := by decide +kernel
theorem jd_ArrayList_add0_16 : decode mi_ArrayList_add0.2.1 16 = .ok (.aload_n 0, 1) := by decide +kernel
theorem jd_ArrayList_add0_17 : decode mi_ArrayList_add0.2.1 17 = .ok (.getfield 48, 3) := by decide +kernel
theorem jd_ArrayList_add0_20 : decode mi_ArrayList_add0.2.1 20 = .ok (.invokevirtual 131, 3) := by decide +kernel
theorem jd_ArrayList_add0_23 : decode mi_ArrayList_add0.2.1 23 = .ok (.iconst 1, 1) := by decide +kernel
theorem jd_ArrayList_add0_24 : decode mi_ArrayList_add0.2.1 24 = .ok (.ireturn, 1) := by decide +kernel
theorem jd_ArrayList_add1_0 : decode mi_ArrayList_add1.2.1 0 = .ok (.iload_n 3, 1) := by decide +kernel
theorem jd_ArrayList_add1_1 : decode mi_ArrayList_add1.2.1 1 = .ok (.aload_n 2, 1) := by decide +kernel
theorem jd_ArrayList_add1_2 : decode mi_ArrayList_add1.2.1 2 = .ok (.arraylength, 1) := by decide +kernel
theorem jd_ArrayList_add1_3 : decode mi_ArrayList_add1.2.1 3 = .ok (.if_icmp .ne 8, 3) := by decide +kernel
theorem jd_ArrayList_add1_6 : decode mi_ArrayList_add1.2.1 6 = .ok (.aload_n 0, 1) := by decide +kernel
theorem jd_ArrayList_add1_7 : decode mi_ArrayList_add1.2.1 7 = .ok (.invokevirtual 129, 3) := by decide +kernel
theorem jd_ArrayList_add1_10 : decode mi_ArrayList_add1.2.1 10 = .ok (.astore_n 2, 1) := by decide +kernel
theorem jd_ArrayList_add1_11 : decode mi_ArrayList_add1.2.1 11 = .ok (.aload_n 2, 1) := by decide +kernel
theorem jd_ArrayList_add1_12 : decode mi_ArrayList_add1.2.1 12 = .ok (.iload_n 3, 1) := by decide +kernel
theorem jd_ArrayList_add1_13 : decode mi_ArrayList_add1.2.1 13 = .ok (.aload_n 1, 1) := by decide +kernel
theorem jd_ArrayList_add1_14 : decode mi_ArrayList_add1.2.1 14 = .ok (.aastore, 1) := by decide +kernel
theorem jd_ArrayList_add1_15 : decode mi_ArrayList_add1.2.1 15 = .ok (.aload_n 0, 1) := by decide +kernel
theorem jd_ArrayList_add1_16 : decode mi_ArrayList_add1.2.1 16 = .ok (.iload_n 3, 1) := by decide +kernel
theorem jd_ArrayList_add1_17 : decode mi_ArrayList_add1.2.1 17 = .ok (.iconst 1, 1) := by decide +kernel
theorem jd_ArrayList_add1_18 : decode mi_ArrayList_add1.2.1 18 = .ok (.iadd, 1) := by decide +kernel
theorem jd_ArrayList_add1_19 : decode mi_ArrayList_add1.2.1 19 = .ok (.putfield 48, 3) := by decide +kernel
theorem jd_ArrayList_add1_22 : decode mi_ArrayList_add1.2.1 22 = .ok (.return_, 1) := by decide +kernel
theorem jd_ArrayList_grow0_0 : decode mi_ArrayList_grow0.2.1 0 = .ok (.aload_n 0, 1) := by decide +kernel
theorem jd_ArrayList_grow0_1 : decode mi_ArrayList_grow0.2.1 1 = .ok (.aload_n 0, 1) := by decide +kernel
theorem jd_ArrayList_grow0_2 : decode mi_ArrayList_grow0.2.1 2 = .ok (.getfield 48, 3) := by decide +kernel
theorem jd_ArrayList_grow0_5 : decode mi_ArrayList_grow0.2.1 5 = .ok (.iconst 1, 1) := by decide +kernel
theorem jd_ArrayList_grow0_6 : decode mi_ArrayList_grow0.2.1 6 = .ok (.iadd, 1) := by decide +kernel
theorem jd_ArrayList_grow0_7 : decode mi_ArrayList_grow0.2.1 7 = .ok (.invokevirtual 69, 3) := by decide +kernel
theorem jd_ArrayList_grow0_10 : decode mi_ArrayList_grow0.2.1 10 = .ok (.areturn, 1) := by decide +kernel
theorem jd_ArrayList_grow1_0 : decode mi_ArrayList_grow1.2.1 0 = .ok (.aload_n 0, 1) := by decide +kernel
theorem jd_ArrayList_grow1_1 : decode mi_ArrayList_grow1.2.1 1 = .ok (.getfield 9, 3) := by decide +kernel
theorem jd_ArrayList_grow1_4 : decode mi_ArrayList_grow1.2.1 4 = .ok (.arraylength, 1) := by decide +kernel
theorem jd_ArrayList_grow1_5 : decode mi_ArrayList_grow1.2.1 5 = .ok (.istore_n 2, 1) := by decide +kernel
theorem jd_ArrayList_grow1_6 : decode mi_ArrayList_grow1.2.1 6 = .ok (.iload_n 2, 1) := by decide +kernel
theorem jd_ArrayList_grow1_7 : decode mi_ArrayList_grow1.2.1 7 = .ok (.ifCond .gt 13, 3) := by decide +kernel
theorem jd_ArrayList_grow1_10 : decode mi_ArrayList_grow1.2.1 10 = .ok (.aload_n 0, 1) := by decide +kernel
theorem jd_ArrayList_grow1_11 : decode mi_ArrayList_grow1.2.1 11 = .ok (.getfield 9, 3) := by decide +kernel
theorem jd_ArrayList_grow1_14 : decode mi_ArrayList_grow1.2.1 14 = .ok (.getstatic 39, 3) := by decide +kernel
theorem jd_ArrayList_grow1_17 : decode mi_ArrayList_grow1.2.1 17 = .ok (.if_acmp .eq 28, 3) := by decide +kernel
theorem jd_ArrayList_grow1_20 : decode mi_ArrayList_grow1.2.1 20 = .ok (.iload_n 2, 1) := by decide +kernel
theorem jd_ArrayList_grow1_21 : decode mi_ArrayList_grow1.2.1 21 = .ok (.iload_n 1, 1) := by decide +kernel
theorem jd_ArrayList_grow1_22 : decode mi_ArrayList_grow1.2.1 22 = .ok (.iload_n 2, 1) := by decide +kernel
theorem jd_ArrayList_grow1_23 : decode mi_ArrayList_grow1.2.1 23 = .ok (.isub, 1) := by decide +kernel
theorem jd_ArrayList_grow1_24 : decode mi_ArrayList_grow1.2.1 24 = .ok (.iload_n 2, 1) := by decide +kernel
theorem jd_ArrayList_grow1_25 : decode mi_ArrayList_grow1.2.1 25 = .ok (.iconst 1, 1) := by decide +kernel
theorem jd_ArrayList_grow1_26 : decode mi_ArrayList_grow1.2.1 26 = .ok (.ishr, 1) := by decide +kernel
theorem jd_ArrayList_grow1_27 : decode mi_ArrayList_grow1.2.1 27 = .ok (.invokestatic 73, 3) := by decide +kernel
theorem jd_ArrayList_grow1_30 : decode mi_ArrayList_grow1.2.1 30 = .ok (.istore_n 3, 1) := by decide +kernel
theorem jd_ArrayList_grow1_31 : decode mi_ArrayList_grow1.2.1 31 = .ok (.aload_n 0, 1) := by decide +kernel
theorem jd_ArrayList_grow1_32 : decode mi_ArrayList_grow1.2.1 32 = .ok (.aload_n 0, 1) := by decide +kernel
theorem jd_ArrayList_grow1_33 : decode mi_ArrayList_grow1.2.1 33 = .ok (.getfield 9, 3) := by decide +kernel
theorem jd_ArrayList_grow1_36 : decode mi_ArrayList_grow1.2.1 36 = .ok (.iload_n 3, 1) := by decide +kernel
theorem jd_ArrayList_grow1_37 : decode mi_ArrayList_grow1.2.1 37 = .ok (.invokestatic 66, 3) := by decide +kernel
theorem jd_ArrayList_grow1_40 : decode mi_ArrayList_grow1.2.1 40 = .ok (.dup_x1, 1) := by decide +kernel
theorem jd_ArrayList_grow1_41 : decode mi_ArrayList_grow1.2.1 41 = .ok (.putfield 9, 3) := by decide +kernel
theorem jd_ArrayList_grow1_44 : decode mi_ArrayList_grow1.2.1 44 = .ok (.areturn, 1) := by decide +kernel
theorem jd_ArrayList_grow1_45 : decode mi_ArrayList_grow1.2.1 45 = .ok (.aload_n 0, 1) := by decide +kernel
theorem jd_ArrayList_grow1_46 : decode mi_ArrayList_grow1.2.1 46 = .ok (.bipush 10, 2) := by decide +kernel
theorem jd_ArrayList_grow1_48 : decode mi_ArrayList_grow1.2.1 48 = .ok (.iload_n 1, 1) := by decide +kernel
theorem jd_ArrayList_grow1_49 : decode mi_ArrayList_grow1.2.1 49 = .ok (.invokestatic 79, 3) := by decide +kernel
theorem jd_ArrayList_grow1_52 : decode mi_ArrayList_grow1.2.1 52 = .ok (.anewarray 7, 3) := by decide +kernel
theorem jd_ArrayList_grow1_55 : decode mi_ArrayList_grow1.2.1 55 = .ok (.dup_x1, 1) := by decide +kernel
theorem jd_ArrayList_grow1_56 : decode mi_ArrayList_grow1.2.1 56 = .ok (.putfield 9, 3) := by decide +kernel
theorem jd_ArrayList_grow1_59 : decode mi_ArrayList_grow1.2.1 59 = .ok (.areturn, 1) := by decide +kernel
theorem jd_ArrayList_get_0 : decode mi_ArrayList_get.2.1 0 = .ok (.iload_n 1, 1) := by decide +kernel
theorem jd_ArrayList_get_1 : decode mi_ArrayList_get.2.1 1 = .ok (.aload_n 0, 1) := by decide +kernel
theorem jd_ArrayList_get_2 : decode mi_ArrayList_get.2.1 2 = .ok (.getfield 48, 3) := by decide +kernel
theorem jd_ArrayList_get_5 : decode mi_ArrayList_get.2.1 5 = .ok (.invokestatic 118, 3) := by decide +kernel
theorem jd_ArrayList_get_8 : decode mi_ArrayList_get.2.1 8 = .ok (.pop, 1) := by decide +kernel
theorem jd_ArrayList_get_9 : decode mi_ArrayList_get.2.1 9 = .ok (.aload_n 0, 1) := by decide +kernel
theorem jd_ArrayList_get_10 : decode mi_ArrayList_get.2.1 10 = .ok (.iload_n 1, 1) := by decide +kernel
theorem jd_ArrayList_get_11 : decode mi_ArrayList_get.2.1 11 = .ok (.invokevirtual 123, 3) := by decide +kernel
theorem jd_ArrayList_get_14 : decode mi_ArrayList_get.2.1 14 = .ok (.areturn, 1) := by decide +kernel
theorem jd_ArrayList_elementData_0 : decode mi_ArrayList_elementData.2.1 0 = .ok (.aload_n 0, 1) := by decide +kernel
theorem jd_ArrayList_elementData_1 : decode mi_ArrayList_elementData.2.1 1 = .ok (.getfield 9, 3) := by decide +kernel
theorem jd_ArrayList_elementData_4 : decode mi_ArrayList_elementData.2.1 4 = .ok (.iload_n 1, 1) := by decide +kernel
theorem jd_ArrayList_elementData_5 : decode mi_ArrayList_elementData.2.1 5 = .ok (.aaload, 1) := by decide +kernel
theorem jd_ArrayList_elementData_6 : decode mi_ArrayList_elementData.2.1 6 = .ok (.areturn, 1) := by decide +kernel
theorem jd_ArrayList_size_0 : decode mi_ArrayList_size.2.1 0 = .ok (.aload_n 0, 1) := by decide +kernel
theorem jd_ArrayList_size_1 : decode mi_ArrayList_size.2.1 1 = .ok (.getfield 48, 3) := by decide +kernel
theorem jd_ArrayList_size_4 : decode mi_ArrayList_size.2.1 4 = .ok (.ireturn, 1) := by decide +kernel
theorem jd_ArrayList_isEmpty_0 : decode mi_ArrayList_isEmpty.2.1 0 = .ok (.aload_n 0, 1) := by decide +kernel
theorem jd_ArrayList_isEmpty_1 : decode mi_ArrayList_isEmpty.2.1 1 = .ok (.getfield 48, 3) := by decide +kernel
theorem jd_ArrayList_isEmpty_4 : decode mi_ArrayList_isEmpty.2.1 4 = .ok (.ifCond .ne 7, 3) := by decide +kernel
theorem jd_ArrayList_isEmpty_7 : decode mi_ArrayList_isEmpty.2.1 7 = .ok (.iconst 1, 1) := by decide +kernel
theorem jd_ArrayList_isEmpty_8 : decode mi_ArrayList_isEmpty.2.1 8 = .ok (.goto 4, 3) := by decide +kernel
theorem jd_ArrayList_isEmpty_11 : decode mi_ArrayList_isEmpty.2.1 11 = .ok (.iconst 0, 1) := by decide +kernel
theorem jd_ArrayList_isEmpty_12 : decode mi_ArrayList_isEmpty.2.1 12 = .ok (.ireturn, 1) := by decide +kernel
theorem jd_Objects_checkIndex_0 : decode mi_Objects_checkIndex.2.1 0 = .ok (.iload_n 0, 1) := by decide +kernel
theorem jd_Objects_checkIndex_1 : decode mi_Objects_checkIndex.2.1 1 = .ok (.iload_n 1, 1) := by decide +kernel
theorem jd_Objects_checkIndex_2 : decode mi_Objects_checkIndex.2.1 2 = .ok (.aconst_null, 1) := by decide +kernel
theorem jd_Objects_checkIndex_3 : decode mi_Objects_checkIndex.2.1 3 = .ok (.invokestatic 105, 3) := by decide +kernel
theorem jd_Objects_checkIndex_6 : decode mi_Objects_checkIndex.2.1 6 = .ok (.ireturn, 1) := by decide +kernel
theorem jd_Preconditions_checkIndex_0 : decode mi_Preconditions_checkIndex.2.1 0 = .ok (.iload_n 0, 1) := by decide +kernel
theorem jd_Preconditions_checkIndex_1 : decode mi_Preconditions_checkIndex.2.1 1 = .ok (.ifCond .lt 8, 3) := by decide +kernel
theorem jd_Preconditions_checkIndex_4 : decode mi_Preconditions_checkIndex.2.1 4 = .ok (.iload_n 0, 1) := by decide +kernel
theorem jd_Preconditions_checkIndex_5 : decode mi_Preconditions_checkIndex.2.1 5 = .ok (.iload_n 1, 1) := by decide +kernel
theorem jd_Preconditions_checkIndex_6 : decode mi_Preconditions_checkIndex.2.1 6 = .ok (.if_icmp .lt 10, 3) := by decide +kernel
theorem jd_Preconditions_checkIndex_9 : decode mi_Preconditions_checkIndex.2.1 9 = .ok (.aload_n 2, 1) := by decide +kernel
theorem jd_Preconditions_checkIndex_10 : decode mi_Preconditions_checkIndex.2.1 10 = .ok (.iload_n 0, 1) := by decide +kernel
theorem jd_Preconditions_checkIndex_11 : decode mi_Preconditions_checkIndex.2.1 11 = .ok (.iload_n 1, 1) := by decide +kernel
theorem jd_Preconditions_checkIndex_12 : decode mi_Preconditions_checkIndex.2.1 12 = .ok (.invokestatic 95, 3) := by decide +kernel
theorem jd_Preconditions_checkIndex_15 : decode mi_Preconditions_checkIndex.2.1 15 = .ok (.athrow, 1) := by decide +kernel
theorem jd_Preconditions_checkIndex_16 : decode mi_Preconditions_checkIndex.2.1 16 = .ok (.iload_n 0, 1) := by decide +kernel
theorem jd_Preconditions_checkIndex_17 : decode mi_Preconditions_checkIndex.2.1 17 = .ok (.ireturn, 1) := by decide +kernel
/-- the old cells are as they were -/
def jw_Nw (μ μ' : jw_Mem) (h : Nat) : Prop := ∀ q, q < h → μ' q = μ q
section
variable {mi : jw_M} {o : jw_O} {k : jw_K} {kc ks pc pc' : Nat} {lc : List (Nat × Value)} {st rest : List Value} {μ : jw_Mem} {hs : Nat}
theorem jw_gets {idx : Nat} (hd : decode mi.2.1 pc = .ok (.getstatic idx, 3)) (hw : Cond.fieldLink mi.1.cls idx "java/util/ArrayList" "DEFAULTCAPACITY_EMPTY_ELEMENTDATA" "[Ljava/lang/Object;" ∈ jw_T) (hp : pc + 3 = pc') (kk : jw_X mi o k kc ks pc' lc (.ref o.2.2.2.2 :: st) μ hs) : jw_X mi o k kc ks pc lc st μ hs := by
  subst hp
  intro C0 H locs ls e1 e2 e3 e4
  exact va_gets C0.1 C0.2.1 C0.xB.2.2.2.2.2.2.1 e3 C0.own (C0.ts _ hw) (fun _ h => h) hd (kk C0 H locs ls e1 e2 e3 e4)
theorem jw_alenZ (hd : decode mi.2.1 pc = .ok (.arraylength, 1)) (hp : pc + 1 = pc') (kk : jw_X mi o k kc ks pc' lc (.int (nI 0) :: rest) μ hs) : jw_X mi o k kc ks pc lc (.ref o.2.2.2.2 :: rest) μ hs := by
  subst hp
  intro C0 H locs ls e1 e2 e3 e4
  exact va_tlen C0.1 C0.2.1 C0.xB.2.2.2.2.2.2.2.2.1 e3 rfl hd (kk C0 H locs ls e1 e2 e3 e4)
theorem jw_castN {idx : Nat} (hd : decode mi.2.1 pc = .ok (.checkcast idx, 3)) (hp : pc + 3 = pc') (kk : jw_X mi o k kc ks pc' lc (.null :: rest) μ hs) : jw_X mi o k kc ks pc lc (.null :: rest) μ hs := by
  subst hp
  exact fun C0 H locs ls e1 e2 e3 e4 => lv_castN C0.1 C0.2.1 hd (kk C0 H locs ls e1 e2 e3 e4)
theorem jw_aastN {a i : Nat} {cA : ClassId} {C : String} {n : Nat} {f : Nat → Option Nat} {x : Int32} (hd : decode mi.2.1 pc = .ok (.aastore, 1)) (ha : μ a = some (.inl (cA, n, .inr (.inr (.inr (.inr f)))))) (ht : (jw_tys o.2.2.1)[i]? = some (cA, .object C)) (hin : vp_in x n) (hp : pc + 1 = pc') (kk : ∀ μ' : jw_Mem, μ' a = some (.inl (cA, n, .inr (.inr (.inr (.inr (va_up f x.toNatClampNeg none)))))) → (∀ q, q ≠ a → μ' q = μ q) → jw_X mi o k kc ks pc' lc rest μ' hs) : jw_X mi o k kc ks pc lc (.null :: .int x :: .ref a :: rest) μ hs := by
  subst hp
  intro C0 H locs ls e1 e2 e3 e4
  refine va_WaastN (C := C) C0.1 C0.2.1 (e2 a _ ha).2 ((C0.hK.2 i _ ht).1 n (fun j => va_rf (f j))) (fun h => by cases h) (by show ¬ (x < 0 ∨ (arrV _ _ _).slots.size ≤ _); rw [arrV_size]; exact hin) rfl rfl hd fun H1 g z oq => ?_
  refine kk _ (va_up_self _ _ _) (fun q hq => va_up_ne _ _ hq) C0 H1 _ ls (z.trans e1) (e2.put ha ?_ oq) (e3.put z oq (e2 a _ ha).1) e4
  show H1[a]? = some (vp_cell _ _)
  rw [g]
  rw [vp_cell_q, vp_cell_q, arrV_store]
  congr 2
  funext q
  by_cases hq : q = x.toNatClampNeg
  · subst hq
    simp [updV, va_up, va_rf]
  · simp [updV, va_up, hq]
theorem jw_newqA {d mc ms N idx : Nat} {n : Int32} (hR : jw_Rm k d mc ms) (hw : Cond.classLink mi.1.cls idx "[I" ∈ jw_T) (hd : decode mi.2.1 pc = .ok (.anewarray idx, 3)) (hn : ¬ n < 0) (hN : n.toNatClampNeg = N) (hb : N * 4 ≤ 536870912) (h1 : kc + 1 ≤ mc) (h2 : ks + N ≤ ms) (hp : pc + 3 = pc') (kk : ∀ μ' : jw_Mem, μ' hs = some (.inl (o.2.2.1 5, N, .inr (.inr (.inr (.inr (fun _ => none)))))) → (∀ q, q ≠ hs → μ' q = μ q) → jw_X mi o k (kc + 1) (ks + N) pc' lc (.ref hs :: rest) μ' (hs + 1)) : jw_X mi o k kc ks pc lc (.int n :: rest) μ hs := by
  subst hp; subst hN
  intro C0 H locs ls e1 e2 e3 e4
  subst e1
  have hlo : o.2.2.2.1 ≤ H.size := Nat.le_trans C0.lo e3.1
  refine W.anewA (t := .int) C0.1 C0.2.1 C0.own (C0.ts _ hw) C0.xB.2.2.2.2.2.2.2.2.2 rfl hd rfl hn hb (Nat.le_trans h1 hR.2.2.1) (Nat.le_trans h2 hR.2.2.2) fun cA kA comp f1 f2 f3 f4 => ?_
  generalize hH1 : H.push ({ cls := cA, slots := Array.replicate n.toNatClampNeg .null, vm := .none } : Cell) = H1
  have z1 : H1.size = H.size + 1 := by rw [← hH1, Array.size_push]
  have g1 : H1[H.size]? = some (arrV cA n.toNatClampNeg (fun _ => .null)) := by rw [← hH1, Array.getElem?_push_size, ← arrV_new]
  have o1 : ∀ q : Nat, q < H.size → H1[q]? = H[q]? := fun q hq => by rw [← hH1, Array.getElem?_push, if_neg (Nat.ne_of_lt hq)]
  have k4 : k.2.2.2.1.vm.findClass ("[" ++ (FieldType.array .int).toString) = some (o.2.2.1 5) := (C0.hK.2 5 (o.2.2.1 5, .array .int) rfl).2
  have hcA : cA = o.2.2.1 5 := Option.some.inj (f1.symm.trans k4)
  subst hcA
  refine kk _ (va_up_self _ _ _) (fun q hq => va_up_ne _ _ hq) C0 H1 _ ls z1 (e2.push hlo ?_ o1) (jw_grow e3 z1 o1) e4
  show H1[H.size]? = some (vp_cell _ _)
  rw [vp_cell_q]
  exact g1
theorem jw_aaldA {a : Nat} {n : Nat} {f : Nat → Option Nat} {x : Int32} {v : Value} (hd : decode mi.2.1 pc = .ok (.aaload, 1)) (ha : μ a = some (.inl (o.2.2.1 5, n, .inr (.inr (.inr (.inr f)))))) (hin : vp_in x n) (hv : va_rf (f x.toNatClampNeg) = v) (hp : pc + 1 = pc') (kk : jw_X mi o k kc ks pc' lc (v :: rest) μ hs) : jw_X mi o k kc ks pc lc (.int x :: .ref a :: rest) μ hs := by
  subst hp; subst hv
  intro C0 H locs ls e1 e2 e3 e4
  have hlt : x.toNatClampNeg < n := Nat.not_le.mp fun q => hin (Or.inr q)
  exact W.aald (v := va_rf (f x.toNatClampNeg)) (ty := .array .int) C0.1 C0.2.1 (e2 a _ ha).2 ((C0.hK.2 5 (o.2.2.1 5, .array .int) rfl).1 n (fun j => va_rf (f j))) rfl (fun q => by cases q) (by show ¬ (x < 0 ∨ (arrV _ _ _).slots.size ≤ _); rw [arrV_size]; exact hin) (by show (arrV _ _ _).slots[_]? = _; rw [arrV_read _ _ hlt]) rfl rfl hd (kk C0 H locs ls e1 e2 e3 e4)
/-- a field of the class above under the class's own name -/
theorem jw_getU {a ci kf N idx : Nat} {fs : List Value} {C ref : String} {T : u_T} {v : Value} (hc : jw_cl[ci]? = some (C, T, N)) (hk : kf < N) (hw : Cond.fieldLink mi.1.cls idx ref (T kf).2.1 (T kf).2.2.1 ∈ jw_T) (hsf : Cond.sameField ref (T kf).1 (T kf).2.1 (T kf).2.2.1 ∈ jw_T) (hd : decode mi.2.1 pc = .ok (.getfield idx, 3)) (ha : μ a = some (.inr (ci, fs))) (hv : fs[kf]? = some v) (hp : pc + 3 = pc') (kk : jw_X mi o k kc ks pc' lc (v :: rest) μ hs) : jw_X mi o k kc ks pc lc (.ref a :: rest) μ hs := by
  subst hp
  exact fun C0 H locs ls e1 e2 e3 e4 => va_get C0.1 C0.2.1 C0.ts (jw_cw _ (List.mem_of_getElem? hc)) C0.own C0.hK (jw_one e2 ha) 0 rfl hc kf hk (C0.ts _ hw) (fun x h9 => u_same (C0.ts _ hsf) x h9) hv hd (kk C0 H locs ls e1 e2 e3 e4)
theorem jw_putU {a ci kf N idx : Nat} {fs fs' : List Value} {C ref : String} {T : u_T} {v : Value} {ty : FieldType} (hc : jw_cl[ci]? = some (C, T, N)) (hk : kf < N) (hw : Cond.fieldLink mi.1.cls idx ref (T kf).2.1 (T kf).2.2.1 ∈ jw_T) (hsf : Cond.sameField ref (T kf).1 (T kf).2.1 (T kf).2.2.1 ∈ jw_T) (hd : decode mi.2.1 pc = .ok (.putfield idx, 3)) (hfin : (T kf).2.2.2 = false) (hty : parseFieldDescriptor (T kf).2.2.1 = some ty) (ha : μ a = some (.inr (ci, fs))) (hn : narrow ty v = v) (hfit : fits ty v = true) (hfs : fs.set kf v = fs') (hl : kf < fs.length) (hp : pc + 3 = pc') (kk : ∀ μ' : jw_Mem, μ' a = some (.inr (ci, fs')) → (∀ q, q ≠ a → μ' q = μ q) → jw_X mi o k kc ks pc' lc rest μ' hs) : jw_X mi o k kc ks pc lc (v :: .ref a :: rest) μ hs := by
  subst hp; subst hfs
  intro C0 H locs ls e1 e2 e3 e4
  have hts := C0.ts
  have hin := jw_cw _ (List.mem_of_getElem? hc)
  have hap := va_apart (own := mi.1.cls) hts hin (jw_ty0 T) (jw_tyok _ (List.mem_of_getElem? hc)) (jw_nmok _ (List.mem_of_getElem? hc)) C0.hK hc
  obtain ⟨r, h1, cell, q1, q2, q3, q4⟩ := (e2 a _ ha).2
  have hr : r = (C, T, N) := Option.some.inj (h1.symm.trans hc)
  subst hr
  obtain ⟨hS, hfc, kC, hkC, hkind⟩ := C0.hK.1 ci _ hc
  obtain ⟨cf, kf1, fi, f, hi, hsl⟩ := hS kf hk
  have hlay := hts _ (hin _ (u_in_lay hk))
  unfold u_lay at hlay
  rw [if_neg (by rw [hfin]; decide)] at hlay
  have hst := (u_facts hfc hkC (u_lays hts hin hk) hi).1
  have h6 := u_store hfc hkC hkind hlay hi hty hn hfit
  refine W.putK C0.1 C0.2.1 (f := f) ⟨C0.own, hts _ hw, ⟨_, _, _, u_same (hts _ hsf) _ hi⟩, hst⟩ (by rw [q2]; exact h6) q1 q3 (by rw [hsl]; exact k2_hasslot (q4 kf hk)) rfl rfl hd fun H' g1 g2 g3 => ?_
  rw [hsl] at g1 ⊢
  exact kk _ (va_up_self _ _ _) (fun q hq => va_up_ne _ _ hq) C0 H' _ ls (g2.trans e1) (e2.put ha ⟨_, hc, t_OB.to (V := updV (vp_V fs) kf v) ⟨_, g1, q2, q3, t_set q4 hap hk v⟩ (fun j _ => vp_updV_set hl v j)⟩ g3) (e3.put g2 g3 (e2 a _ ha).1) e4
end
theorem jw_sf : Cond.sameField "java/util/ArrayList" "java/util/AbstractList" "modCount" "I" ∈ jw_T := jw_mem 1047 (by decide +kernel) (by decide +kernel)
theorem jw_Nw.rf {μ : jw_Mem} {h : Nat} : jw_Nw μ μ h := fun _ _ => rfl
theorem jw_Nw.step {μ0 μ μ' : jw_Mem} {h b : Nat} (x : jw_Nw μ0 μ h) (f : ∀ q, q ≠ b → μ' q = μ q) (hb : h ≤ b) : jw_Nw μ0 μ' h := fun q hq => (f q (by omega)).trans (x q hq)
theorem jw_Nw.fr {μ0 μ μ' : jw_Mem} {h b n : Nat} (x : jw_Nw μ0 μ h) (f : jw_Fr μ μ' b n) (hb : h ≤ b) : jw_Nw μ0 μ' h := fun q hq => (f q (by omega)).trans (x q hq)
theorem jw_Nw.trans {μ0 μ μ' : jw_Mem} {h h' : Nat} (x : jw_Nw μ0 μ h) (f : jw_Nw μ μ' h') (hb : h ≤ h') : jw_Nw μ0 μ' h := fun q hq => (f q (by omega)).trans (x q hq)
/-- a list's own cell: elements at e, n of them -/
def bl_At (μ : jw_Mem) (a e n : Nat) : Prop := ∃ c : Int32, μ a = some (.inr (11, [.int c, .ref e, .int (nI n)]))
section
variable {o : jw_O} {μ : jw_Mem} {hs a e n : Nat}
theorem bl_absColl {c : Nat} : jw_Ro mi_AbstractCollection_init 1 o [.ref a] μ hs none := by
  refine jw_ro (by decide +kernel) (Nat.le_of_ble_eq_true rfl) rfl (fun k hR hE => ?_)
  refine jw_aload_n (pc' := 1) jd_AbstractCollection_init_0 rfl rfl rfl ?_
  refine jw_objInit (pc' := 4) hR jq_1040 jd_AbstractCollection_init_1 (Nat.le_of_ble_eq_true rfl) (by omega) rfl ?_
  refine jw_vret hE jd_AbstractCollection_init_4 rfl (by omega) (by omega) ?_
  exact ⟨rfl, rfl, rfl⟩
theorem bl_absList {x z : Int32} {v : Value} (h0 : μ a = some (.inr (11, [.int x, v, .int z]))) : jw_Spec mi_AbstractList_init 2 0 0 o [.ref a] μ hs (fun r μ' s' => r = none ∧ s' = hs ∧ μ' a = some (.inr (11, [.int (nI 0), v, .int z])) ∧ jw_Fr μ μ' a 1) := by
  refine jw_spec (by decide +kernel) (Nat.le_of_ble_eq_true rfl) rfl (fun k hR hE => ?_)
  refine jw_aload_n (pc' := 1) jd_AbstractList_init_0 rfl rfl rfl ?_
  refine jw_callI0 (pc' := 4) hR (bl_absColl (c := 0)) jm_AbstractCollection_init jq_1037 jd_AbstractList_init_1 rfl rfl (Nat.le_of_ble_eq_true rfl) (by omega) (by decide) (by omega) (by omega) rfl rfl ?_
  refine jw_aload_n (pc' := 5) jd_AbstractList_init_4 rfl rfl rfl ?_
  refine jw_iconst (pc' := 6) (v := nI 0) jd_AbstractList_init_5 (by decide +kernel) rfl ?_
  refine jw_put (pc' := 9) (kf := 0) (ty := .int) (fs' := [_, _, _]) jc_ArrayList (by decide) jq_1045 jd_AbstractList_init_6 rfl (by decide +kernel) (by assumption) rfl rfl rfl (Nat.le_of_ble_eq_true rfl) rfl (fun μ h0 f9 => ?_)
  refine jw_vret hE jd_AbstractList_init_9 rfl (by omega) (by omega) ?_
  exact ⟨rfl, rfl, h0, jw_Fr.o f9⟩
theorem bl_init {x : Int32} {v : Value} (h0 : μ a = some (.inr (11, [.int x, v, .int 0]))) : jw_Spec mi_ArrayList_init 3 0 0 o [.ref a] μ hs (fun r μ' s' => r = none ∧ s' = hs ∧ bl_At μ' a o.2.2.2.2 0 ∧ jw_Fr μ μ' a 1) := by
  refine jw_spec (by decide +kernel) (Nat.le_of_ble_eq_true rfl) rfl (fun k hR hE => ?_)
  refine jw_aload_n (pc' := 1) jd_ArrayList_init_0 rfl rfl rfl ?_
  refine jw_callI (pc' := 4) hR (bl_absList h0) jm_AbstractList_init jq_1034 jd_ArrayList_init_1 rfl rfl (Nat.le_of_ble_eq_true rfl) (by omega) (by decide) (by omega) (by omega) rfl (fun r μ s9 q9 hle => ?_)
  obtain ⟨rfl, rfl, h0, fA⟩ := q9
  refine jw_aload_n (pc' := 5) jd_ArrayList_init_4 rfl rfl rfl ?_
  refine jw_gets (pc' := 8) jd_ArrayList_init_5 jq_1041 rfl ?_
  refine jw_put (pc' := 11) (kf := 1) (ty := (.array (.object "java/lang/Object"))) (fs' := [_, _, _]) jc_ArrayList (by decide) jq_1043 jd_ArrayList_init_8 rfl (by decide +kernel) (by assumption) rfl rfl rfl (Nat.le_of_ble_eq_true rfl) rfl (fun μ h0 f9 => ?_)
  refine jw_vret hE jd_ArrayList_init_11 rfl (by omega) (by omega) ?_
  exact ⟨rfl, rfl, ⟨_, h0⟩, fun q hq => (f9 q (by omega)).trans (fA q hq)⟩
theorem bl_size (h : bl_At μ a e n) : jw_Ro mi_ArrayList_size 0 o [.ref a] μ hs (some (.int (nI n))) := by
  refine jw_ro (by decide +kernel) (Nat.le_of_ble_eq_true rfl) rfl (fun k hR hE => ?_)
  obtain ⟨c, h0⟩ := h
  refine jw_aload_n (pc' := 1) jd_ArrayList_size_0 rfl rfl rfl ?_
  refine jw_get (pc' := 4) (kf := 2) jc_ArrayList (by decide) jq_1044 jd_ArrayList_size_1 (by assumption) rfl rfl ?_
  refine jw_iret hE jd_ArrayList_size_4 rfl (by omega) (by omega) ?_
  exact ⟨rfl, rfl, rfl⟩
theorem bl_isEmpty (h : bl_At μ a e 0) : jw_Ro mi_ArrayList_isEmpty 0 o [.ref a] μ hs (some (.int (nI 1))) := by
  refine jw_ro (by decide +kernel) (Nat.le_of_ble_eq_true rfl) rfl (fun k hR hE => ?_)
  obtain ⟨c, h0⟩ := h
  refine jw_aload_n (pc' := 1) jd_ArrayList_isEmpty_0 rfl rfl rfl ?_
  refine jw_get (pc' := 4) (kf := 2) jc_ArrayList (by decide) jq_1044 jd_ArrayList_isEmpty_1 (by assumption) rfl rfl ?_
  refine jw_if_ne (tgt := 11) (pc' := 7) jd_ArrayList_isEmpty_4 (by decide) rfl (fun c1 => ?_) (fun c1 => ?_)
  · exact absurd rfl c1
  refine jw_iconst (pc' := 8) (v := nI 1) jd_ArrayList_isEmpty_7 (by decide +kernel) rfl ?_
  refine jw_goto (tgt := 12) jd_ArrayList_isEmpty_8 (by decide) ?_
  refine jw_zret hE jd_ArrayList_isEmpty_12 rfl (by first | exact vp_nar_int _ | decide +kernel) (by omega) (by omega) ?_
  exact ⟨rfl, rfl, rfl⟩
theorem bl_pre {i m : Nat} {v : Value} (h : i < m) (hm : m < 2 ^ 31) : jw_Ro mi_Preconditions_checkIndex 0 o [.int (nI i), .int (nI m), .null] μ hs (some (.int (nI i))) := by
  refine jw_ro (by decide +kernel) (Nat.le_of_ble_eq_true rfl) rfl (fun k hR hE => ?_)
  refine jw_iload_n (pc' := 1) jd_Preconditions_checkIndex_0 rfl rfl rfl ?_
  refine jw_if_lt (tgt := 9) (pc' := 4) jd_Preconditions_checkIndex_1 (by decide) rfl (fun c => ?_) (fun c => ?_)
  · exact absurd c (nI_pos (by omega))
  refine jw_iload_n (pc' := 5) jd_Preconditions_checkIndex_4 rfl rfl rfl ?_
  refine jw_iload_n (pc' := 6) jd_Preconditions_checkIndex_5 rfl rfl rfl ?_
  refine jw_icmp_lt (tgt := 16) (pc' := 9) jd_Preconditions_checkIndex_6 (by decide) rfl (fun c1 => ?_) (fun c1 => ?_)
  rotate_left
  · exact absurd ((nI_ltI (by omega) (by omega)).mpr h) c1
  refine jw_iload_n (pc' := 17) jd_Preconditions_checkIndex_16 rfl rfl rfl ?_
  refine jw_iret hE jd_Preconditions_checkIndex_17 rfl (by omega) (by omega) ?_
  exact ⟨rfl, rfl, rfl⟩
theorem bl_check {i m : Nat} (h : i < m) (hm : m < 2 ^ 31) : jw_Ro mi_Objects_checkIndex 1 o [.int (nI i), .int (nI m)] μ hs (some (.int (nI i))) := by
  refine jw_ro (by decide +kernel) (Nat.le_of_ble_eq_true rfl) rfl (fun k hR hE => ?_)
  refine jw_iload_n (pc' := 1) jd_Objects_checkIndex_0 rfl rfl rfl ?_
  refine jw_iload_n (pc' := 2) jd_Objects_checkIndex_1 rfl rfl rfl ?_
  refine jw_null (pc' := 3) jd_Objects_checkIndex_2 rfl ?_
  refine jw_callS0 (pc' := 6) hR (bl_pre (v := .null) h hm) jm_Preconditions_checkIndex jq_1240 jd_Objects_checkIndex_3 rfl rfl (Nat.le_of_ble_eq_true rfl) (by omega) (by decide) (by omega) (by omega) rfl rfl ?_
  refine jw_iret hE jd_Objects_checkIndex_6 rfl (by omega) (by omega) ?_
  exact ⟨rfl, rfl, rfl⟩
theorem bl_get {i m : Nat} {f : Nat → Option Nat} (h : bl_At μ a e n) (he : μ e = some (.inl (o.2.2.1 6, m, .inr (.inr (.inr (.inr f)))))) (hi : i < n) (hn : n ≤ m) (hm : m < 2 ^ 31) (hf : f i = none) : jw_Ro mi_ArrayList_get 2 o [.ref a, .int (nI i)] μ hs (some .null) := by
  refine jw_ro (by decide +kernel) (Nat.le_of_ble_eq_true rfl) rfl (fun k hR hE => ?_)
  obtain ⟨c, h0⟩ := h
  have hel : jw_Ro mi_ArrayList_elementData 0 o [.ref a, .int (nI i)] μ hs (some .null) := by
    refine jw_ro (by decide +kernel) (Nat.le_of_ble_eq_true rfl) rfl (fun k hR hE => ?_)
    refine jw_aload_n (pc' := 1) jd_ArrayList_elementData_0 rfl rfl rfl ?_
    refine jw_get (pc' := 4) (kf := 1) jc_ArrayList (by decide) jq_1043 jd_ArrayList_elementData_1 (by assumption) rfl rfl ?_
    refine jw_iload_n (pc' := 5) jd_ArrayList_elementData_4 rfl rfl rfl ?_
    refine jw_aald (pc' := 6) (i := 6) jd_ArrayList_elementData_5 (by assumption) rfl (vp_in_nI (by omega) (by omega)) (by rw [nI_clamp (by omega), hf]; rfl : va_rf (f (nI i).toNatClampNeg) = .null) rfl ?_
    refine jw_aret hE jd_ArrayList_elementData_6 rfl (by first | exact Or.inl ⟨_, rfl⟩ | exact Or.inr ⟨_, rfl⟩) (by first | exact Or.inr ⟨_, rfl⟩ | exact Or.inl rfl) (by omega) (by omega) ?_
    exact ⟨rfl, rfl, rfl⟩
  refine jw_iload_n (pc' := 1) jd_ArrayList_get_0 rfl rfl rfl ?_
  refine jw_aload_n (pc' := 2) jd_ArrayList_get_1 rfl rfl rfl ?_
  refine jw_get (pc' := 5) (kf := 2) jc_ArrayList (by decide) jq_1044 jd_ArrayList_get_2 (by assumption) rfl rfl ?_
  refine jw_callS0 (pc' := 8) hR (bl_check hi (by omega)) jm_Objects_checkIndex jq_1237 jd_ArrayList_get_5 rfl rfl (Nat.le_of_ble_eq_true rfl) (by omega) (by decide) (by omega) (by omega) rfl rfl ?_
  refine jw_pop (pc' := 9) jd_ArrayList_get_8 rfl rfl ?_
  refine jw_aload_n (pc' := 10) jd_ArrayList_get_9 rfl rfl rfl ?_
  refine jw_iload_n (pc' := 11) jd_ArrayList_get_10 rfl rfl rfl ?_
  refine jw_callV0 (pc' := 14) hR (hel) jm_ArrayList_elementData jq_1243 jc_ArrayList jd_ArrayList_get_11 (by assumption) rfl rfl (Nat.le_of_ble_eq_true rfl) (by omega) (by decide) (by omega) (by omega) rfl rfl ?_
  refine jw_aret hE jd_ArrayList_get_14 rfl (by first | exact Or.inl ⟨_, rfl⟩ | exact Or.inr ⟨_, rfl⟩) (by first | exact Or.inr ⟨_, rfl⟩ | exact Or.inl rfl) (by omega) (by omega) ?_
  exact ⟨rfl, rfl, rfl⟩
theorem bl_grow {c : Int32} (h0 : μ a = some (.inr (11, [.int c, .ref o.2.2.2.2, .int (nI 0)]))) (ha : a < hs) : jw_Spec mi_ArrayList_grow1 1 1 10 o [.ref a, .int (nI 1)] μ hs (fun r μ' s' => r = some (.ref hs) ∧ s' = hs + 1 ∧ μ' a = some (.inr (11, [.int c, .ref hs, .int (nI 0)])) ∧ μ' hs = some (.inl (o.2.2.1 6, 10, .inr (.inr (.inr (.inr (fun _ => none)))))) ∧ ∀ q, q ≠ a → q ≠ hs → μ' q = μ q) := by
  refine jw_spec (by decide +kernel) (Nat.le_of_ble_eq_true rfl) rfl (fun k hR hE => ?_)
  refine jw_aload_n (pc' := 1) jd_ArrayList_grow1_0 rfl rfl rfl ?_
  refine jw_get (pc' := 4) (kf := 1) jc_ArrayList (by decide) jq_1043 jd_ArrayList_grow1_1 (by assumption) rfl rfl ?_
  refine jw_alenZ (pc' := 5) jd_ArrayList_grow1_4 rfl ?_
  refine jw_istore_n (pc' := 6) (lc' := [(0, _), (1, _), (2, _)]) jd_ArrayList_grow1_5 rfl (Nat.le_of_ble_eq_true rfl) ⟨rfl, rfl, rfl, trivial⟩ rfl ?_
  refine jw_iload_n (pc' := 7) jd_ArrayList_grow1_6 rfl rfl rfl ?_
  refine jw_if_gt (tgt := 20) (pc' := 10) jd_ArrayList_grow1_7 (by decide) rfl (fun c1 => ?_) (fun c1 => ?_)
  · exact absurd c1 (by decide)
  refine jw_aload_n (pc' := 11) jd_ArrayList_grow1_10 rfl rfl rfl ?_
  refine jw_get (pc' := 14) (kf := 1) jc_ArrayList (by decide) jq_1043 jd_ArrayList_grow1_11 (by assumption) rfl rfl ?_
  refine jw_gets (pc' := 17) jd_ArrayList_grow1_14 jq_1041 rfl ?_
  refine jw_acmp_eq (tgt := 45) (pc' := 20) (rx := some o.2.2.2.2) (ry := some o.2.2.2.2) jd_ArrayList_grow1_17 (by decide) rfl (fun c2 => ?_) (fun c2 => ?_)
  rotate_left
  · exact absurd rfl c2
  refine jw_aload_n (pc' := 46) jd_ArrayList_grow1_45 rfl rfl rfl ?_
  refine jw_bipush (pc' := 48) (v := nI 10) jd_ArrayList_grow1_46 (by decide +kernel) rfl ?_
  refine jw_iload_n (pc' := 49) jd_ArrayList_grow1_48 rfl rfl rfl ?_
  refine jw_mmax (pc' := 52) (v := nI 10) hR jq_1128 jd_ArrayList_grow1_49 (Nat.le_of_ble_eq_true rfl) (by omega) (by omega) (by omega) (by decide) rfl ?_
  refine jw_newq (pc' := 55) (N := 10) (i := 6) (C := "java/lang/Object") hR jq_1129 (by decide +kernel) rfl jd_ArrayList_grow1_52 (by decide +kernel) (by decide +kernel) (by decide +kernel) (by omega) (by omega) rfl (fun μ h1 f9 => ?_)
  have h0 := (f9 _ (by omega)).trans h0
  have f8 := f9
  refine jw_dup_x1 (pc' := 56) jd_ArrayList_grow1_55 rfl rfl rfl ?_
  refine jw_put (pc' := 59) (kf := 1) (ty := (.array (.object "java/lang/Object"))) (fs' := [_, _, _]) jc_ArrayList (by decide) jq_1043 jd_ArrayList_grow1_56 rfl (by decide +kernel) (by assumption) rfl rfl rfl (Nat.le_of_ble_eq_true rfl) rfl (fun μ h0 f9 => ?_)
  have h1 := (f9 _ (by omega)).trans h1
  refine jw_aret hE jd_ArrayList_grow1_59 rfl (by first | exact Or.inl ⟨_, rfl⟩ | exact Or.inr ⟨_, rfl⟩) (by first | exact Or.inr ⟨_, rfl⟩ | exact Or.inl rfl) (by omega) (by omega) ?_
  exact ⟨rfl, rfl, h0, h1, fun q hq hq2 => (f9 q hq).trans (f8 q hq2)⟩
theorem bl_add {c : Int32} (h0 : μ a = some (.inr (11, [.int c, .ref o.2.2.2.2, .int (nI 0)]))) (ha : a < hs) : jw_Spec mi_ArrayList_add0 4 1 10 o [.ref a, .null] μ hs (fun r μ' s' => r = some (.int (nI 1)) ∧ s' = hs + 1 ∧ bl_At μ' a hs 1 ∧ (∃ f, μ' hs = some (.inl (o.2.2.1 6, 10, .inr (.inr (.inr (.inr f))))) ∧ f 0 = none) ∧ ∀ q, q ≠ a → q ≠ hs → μ' q = μ q) := by
  refine jw_spec (by decide +kernel) (Nat.le_of_ble_eq_true rfl) rfl (fun k hR hE => ?_)
  have hadd1 : ∀ (μ : jw_Mem) (c : Int32), μ a = some (.inr (11, [.int c, .ref o.2.2.2.2, .int (nI 0)])) → jw_Spec mi_ArrayList_add1 3 1 10 o [.ref a, .null, .ref o.2.2.2.2, .int (nI 0)] μ hs (fun r μ' s' => r = none ∧ s' = hs + 1 ∧ bl_At μ' a hs 1 ∧ (∃ f, μ' hs = some (.inl (o.2.2.1 6, 10, .inr (.inr (.inr (.inr f))))) ∧ f 0 = none) ∧ ∀ q, q ≠ a → q ≠ hs → μ' q = μ q) := by
    intro μ c h0
    refine jw_spec (by decide +kernel) (Nat.le_of_ble_eq_true rfl) rfl (fun k hR hE => ?_)
    have hgrow0 : jw_Spec mi_ArrayList_grow0 2 1 10 o [.ref a] μ hs (fun r μ' s' => r = some (.ref hs) ∧ s' = hs + 1 ∧ μ' a = some (.inr (11, [.int c, .ref hs, .int (nI 0)])) ∧ μ' hs = some (.inl (o.2.2.1 6, 10, .inr (.inr (.inr (.inr (fun _ => none)))))) ∧ ∀ q, q ≠ a → q ≠ hs → μ' q = μ q) := by
      refine jw_spec (by decide +kernel) (Nat.le_of_ble_eq_true rfl) rfl (fun k hR hE => ?_)
      refine jw_aload_n (pc' := 1) jd_ArrayList_grow0_0 rfl rfl rfl ?_
      refine jw_aload_n (pc' := 2) jd_ArrayList_grow0_1 rfl rfl rfl ?_
      refine jw_get (pc' := 5) (kf := 2) jc_ArrayList (by decide) jq_1044 jd_ArrayList_grow0_2 (by assumption) rfl rfl ?_
      refine jw_iconst (pc' := 6) (v := nI 1) jd_ArrayList_grow0_5 (by decide +kernel) rfl ?_
      refine jw_iadd (pc' := 7) jd_ArrayList_grow0_6 (nI_1 0) rfl ?_
      refine jw_callV (pc' := 10) hR (bl_grow h0 ha) jm_ArrayList_grow1 jq_1081 jc_ArrayList jd_ArrayList_grow0_7 (by assumption) rfl rfl (Nat.le_of_ble_eq_true rfl) (by omega) (by decide) (by omega) (by omega) rfl (fun r μ s9 q9 hle => ?_)
      obtain ⟨rfl, rfl, q⟩ := q9
      refine jw_aret hE jd_ArrayList_grow0_10 rfl (by first | exact Or.inl ⟨_, rfl⟩ | exact Or.inr ⟨_, rfl⟩) (by first | exact Or.inr ⟨_, rfl⟩ | exact Or.inl rfl) (by omega) (by omega) ?_
      exact ⟨rfl, rfl, q⟩
    refine jw_iload_n (pc' := 1) jd_ArrayList_add1_0 rfl rfl rfl ?_
    refine jw_aload_n (pc' := 2) jd_ArrayList_add1_1 rfl rfl rfl ?_
    refine jw_alenZ (pc' := 3) jd_ArrayList_add1_2 rfl ?_
    refine jw_icmp_ne (tgt := 11) (pc' := 6) jd_ArrayList_add1_3 (by decide) rfl (fun c1 => ?_) (fun c1 => ?_)
    · exact absurd rfl c1
    refine jw_aload_n (pc' := 7) jd_ArrayList_add1_6 rfl rfl rfl ?_
    refine jw_callV (pc' := 10) hR (hgrow0) jm_ArrayList_grow0 jq_1077 jc_ArrayList jd_ArrayList_add1_7 (by assumption) rfl rfl (Nat.le_of_ble_eq_true rfl) (by omega) (by decide) (by omega) (by omega) rfl (fun r μ s9 q9 hle => ?_)
    obtain ⟨rfl, rfl, h0, h1, f7⟩ := q9
    refine jw_astore_n (pc' := 11) (lc' := [(0, _), (1, _), (2, _), (3, _)]) jd_ArrayList_add1_10 rfl (Nat.le_of_ble_eq_true rfl) ⟨rfl, rfl, rfl, rfl, trivial⟩ rfl ?_
    refine jw_aload_n (pc' := 12) jd_ArrayList_add1_11 rfl rfl rfl ?_
    refine jw_iload_n (pc' := 13) jd_ArrayList_add1_12 rfl rfl rfl ?_
    refine jw_aload_nN (pc' := 14) jd_ArrayList_add1_13 rfl rfl rfl ?_
    refine jw_aastN (pc' := 15) (i := 6) jd_ArrayList_add1_14 (by assumption) rfl (vp_in_nI (n := 0) (by omega) (by omega)) rfl (fun μ h1 f9 => ?_)
    have h0 := (f9 _ (by omega)).trans h0
    have f7 : ∀ q, q ≠ a → q ≠ hs → μ q = _ := fun q z1 z2 => (f9 q z2).trans (f7 q z1 z2)
    refine jw_aload_n (pc' := 16) jd_ArrayList_add1_15 rfl rfl rfl ?_
    refine jw_iload_n (pc' := 17) jd_ArrayList_add1_16 rfl rfl rfl ?_
    refine jw_iconst (pc' := 18) (v := nI 1) jd_ArrayList_add1_17 (by decide +kernel) rfl ?_
    refine jw_iadd (pc' := 19) jd_ArrayList_add1_18 (nI_1 0) rfl ?_
    refine jw_put (pc' := 22) (kf := 2) (ty := .int) (fs' := [_, _, _]) jc_ArrayList (by decide) jq_1044 jd_ArrayList_add1_19 rfl (by decide +kernel) (by assumption) rfl rfl rfl (Nat.le_of_ble_eq_true rfl) rfl (fun μ h0 f9 => ?_)
    have h1 := (f9 _ (by omega)).trans h1
    refine jw_vret hE jd_ArrayList_add1_22 rfl (by omega) (by omega) ?_
    refine ⟨rfl, rfl, ⟨_, h0⟩, ⟨_, h1, ?_⟩, fun q z1 z2 => (f9 q z1).trans (f7 q z1 z2)⟩
    rw [nI_clamp (by omega)]
    exact va_up_self _ _ _
  refine jw_aload_n (pc' := 1) jd_ArrayList_add0_0 rfl rfl rfl ?_
  refine jw_dup (pc' := 2) jd_ArrayList_add0_1 rfl rfl ?_
  refine jw_getU (pc' := 5) (kf := 0) jc_ArrayList (by decide) jq_1046 jw_sf jd_ArrayList_add0_2 (by assumption) rfl rfl ?_
  refine jw_iconst (pc' := 6) (v := nI 1) jd_ArrayList_add0_5 (by decide +kernel) rfl ?_
  refine jw_iadd (pc' := 7) jd_ArrayList_add0_6 rfl rfl ?_
  refine jw_putU (pc' := 10) (kf := 0) (ty := .int) (fs' := [_, _, _]) jc_ArrayList (by decide) jq_1046 jw_sf jd_ArrayList_add0_7 rfl (by decide +kernel) (by assumption) (vp_nar_int _) rfl rfl (Nat.le_of_ble_eq_true rfl) rfl (fun μ h0 f8 => ?_)
  refine jw_aload_n (pc' := 11) jd_ArrayList_add0_10 rfl rfl rfl ?_
  refine jw_aload_nN (pc' := 12) jd_ArrayList_add0_11 rfl rfl rfl ?_
  refine jw_aload_n (pc' := 13) jd_ArrayList_add0_12 rfl rfl rfl ?_
  refine jw_get (pc' := 16) (kf := 1) jc_ArrayList (by decide) jq_1043 jd_ArrayList_add0_13 (by assumption) rfl rfl ?_
  refine jw_aload_n (pc' := 17) jd_ArrayList_add0_16 rfl rfl rfl ?_
  refine jw_get (pc' := 20) (kf := 2) jc_ArrayList (by decide) jq_1044 jd_ArrayList_add0_17 (by assumption) rfl rfl ?_
  refine jw_callV (pc' := 23) hR (hadd1 μ _ h0) jm_ArrayList_add1 jq_1073 jc_ArrayList jd_ArrayList_add0_20 (by assumption) rfl rfl (Nat.le_of_ble_eq_true rfl) (by omega) (by decide) (by omega) (by omega) rfl (fun r μ s9 q9 hle => ?_)
  obtain ⟨rfl, rfl, hL, hf, f7⟩ := q9
  refine jw_iconst (pc' := 24) (v := nI 1) jd_ArrayList_add0_23 (by decide +kernel) rfl ?_
  refine jw_zret hE jd_ArrayList_add0_24 rfl (by first | exact vp_nar_int _ | decide +kernel) (by omega) (by omega) ?_
  exact ⟨rfl, rfl, hL, hf, fun q z1 z2 => (f7 q z1 z2).trans (f8 q z1)⟩
end
