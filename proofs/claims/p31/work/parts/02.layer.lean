/-! THE LAYER: one walk judgement (jw_X) over a memory that is a function from addresses to known cells; every rule is a row of the kit, once. -/
/-- what is known of the heap: own cells, from o's first address on -/
def jw_H (o : jw_O) (μ : jw_Mem) (H : Heap) : Prop := ∀ (a : Nat) (e : va_E), μ a = some e → o.2.2.2.1 ≤ a ∧ va_at o.2.1 jw_cl (a, e) H
def jw_S (s : State) : Prop := (∀ q ∈ jw_nest, va_Nw (.methodLinkNest q.1 q.2.1 q.2.2.1 q.2.2.2) s) ∧ ∀ C ∈ jw_ao, va_AO C s
theorem jw_S.moved {s U : State} (hW : s.WarmedH U.vm) (h : jw_S s) : jw_S U := ⟨fun q hq => va_Nw.warmM hW (h.1 q hq), fun C hC => va_AO.moved hW.alike (h.2 C hC)⟩
def jw_B (o : jw_O) (μ : jw_Mem) (hs : Nat) (U : State) : Prop := U.heap.size = hs ∧ jw_H o μ U.heap ∧ va_K o.2.1 jw_cl (jw_tys o.2.2.1) U ∧ jw_S U ∧ o.2.2.2.1 ≤ hs ∧ jw_xB o U U.heap
def jw_Q (o : jw_O) (Φ : Option Value → jw_Mem → Nat → Prop) : Array Value → State → Outcome → State → Prop := fun _ st oc t => (∃ (v : Option Value) (μ' : jw_Mem), oc = .returned v ∧ jw_H o μ' t.heap ∧ Φ v μ' t.heap.size) ∧ va_F (fun q => o.2.2.2.1 ≤ q) st t
def jw_ws (mi : jw_M) : List Cond := Cond.code mi.1 mi.2.1 mi.2.2.1 mi.2.2.2 :: jw_T
def jw_rm (d mc ms : Nat) : Room := { frames := d, cells := mc, slots := ms, locals := 40 * d }
/-- a method's contract: from the memory μ it returns v with a memory μ' so that Φ v μ' (heap's size) -/
def jw_Spec (mi : jw_M) (d mc ms : Nat) (o : jw_O) (As : List Value) (μ : jw_Mem) (hs : Nat) (Φ : Option Value → jw_Mem → Nat → Prop) : Prop :=
  Met o.1 mi.1 (jw_ws mi) (jw_rm d mc ms) (va_Pc As (jw_B o μ hs)) (jw_Q o Φ) mc ms (fun q => o.2.2.2.1 ≤ q)
/-- the frame that walks: its machine, its code, the tables' words -/
def jw_Cx (mi : jw_M) (o : jw_O) (k : jw_K) : Prop :=
  k.1.tables.exec = Jvm.exec ∧ k.2.2.2.2.2.2.2.2.1.code = mi.2.1 ∧ k.2.2.2.2.2.2.2.1.sig.returnType = mi.2.2.2 ∧ k.2.2.2.2.2.2.2.2.1.maxLocals = mi.2.2.1 ∧ k.2.2.2.1.vm.findClass mi.1.cls = some k.2.2.2.2.1.cls ∧ (∀ w ∈ jw_T, w.before k.2.2.2.2.2.1 k.2.2.2.1 = true) ∧ k.2.2.2.2.2.2.2.1.locks = false ∧ k.2.2.2.2.2.2.2.1.name = mi.1.name ∧ va_K o.2.1 jw_cl (jw_tys o.2.2.1) k.2.2.2.1 ∧ jw_S k.2.2.2.1 ∧ o.2.2.2.1 ≤ k.2.2.2.1.heap.size ∧ jw_xB o k.2.2.2.1 k.2.2.2.1.heap
def jw_W (o : jw_O) (k : jw_K) (H : Heap) (locs : List Loc) (kc ks : Nat) (pc : Nat) (ls : Array Slot) (st : List Value) : Prop :=
  W k.1 o.1 k.2.1 k.2.2.1 k.2.2.2.1 k.2.2.2.2.1 k.2.2.2.2.2.1 k.2.2.2.2.2.2.1 k.2.2.2.2.2.2.2.1 k.2.2.2.2.2.2.2.2.1 H locs kc ks k.2.2.2.2.2.2.2.2.2 (F0 k.2.2.2.2.1 pc ls st)
/-- from here the walk comes to its end -/
def jw_X (mi : jw_M) (o : jw_O) (k : jw_K) (kc ks pc : Nat) (lc : List (Nat × Value)) (st : List Value) (μ : jw_Mem) (hs : Nat) : Prop :=
  jw_Cx mi o k → ∀ (H : Heap) (locs : List Loc) (ls : Array Slot), H.size = hs → jw_H o μ H → va_S (fun q => o.2.2.2.1 ≤ q) k.2.2.2.1.heap H locs → lv_has ls mi.2.2.1 lc → jw_W o k H locs kc ks pc ls st
def jw_Rm (k : jw_K) (d mc ms : Nat) : Prop := d ≤ k.2.2.1.frames ∧ 40 * d ≤ k.2.2.1.locals ∧ mc ≤ k.2.2.1.cells ∧ ms ≤ k.2.2.1.slots
/-- the walk's end is the end of a method with the post Φ -/
def jw_E (o : jw_O) (k : jw_K) (mc ms : Nat) (Φ : Option Value → jw_Mem → Nat → Prop) : Prop := ∀ (H : Heap) (locs : List Loc) (g : JFrame), W k.1 o.1 k.2.1 k.2.2.1 k.2.2.2.1 k.2.2.2.2.1 k.2.2.2.2.2.1 k.2.2.2.2.2.2.1 k.2.2.2.2.2.2.2.1 k.2.2.2.2.2.2.2.2.1 H locs mc ms (MQ k.2.2.2.2.2.2.1 (jw_Q o Φ) k.2.2.2.2.2.1 k.2.2.2.1 mc ms (fun q => o.2.2.2.1 ≤ q)) g → W k.1 o.1 k.2.1 k.2.2.1 k.2.2.2.1 k.2.2.2.2.1 k.2.2.2.2.2.1 k.2.2.2.2.2.2.1 k.2.2.2.2.2.2.2.1 k.2.2.2.2.2.2.2.2.1 H locs mc ms k.2.2.2.2.2.2.2.2.2 g
-- locals
def jw_lk : List (Nat × Value) → Nat → Option Value
  | [], _ => none
  | q :: t, i => match Nat.beq q.1 i with
    | true => some q.2
    | false => jw_lk t i
theorem jw_lk_mem : ∀ {lc : List (Nat × Value)} {i : Nat} {v : Value}, jw_lk lc i = some v → (i, v) ∈ lc
  | [], _, _, h => by simp [jw_lk] at h
  | (j, w) :: t, i, v, h => by
    unfold jw_lk at h
    cases hb : Nat.beq j i with
    | true =>
      rw [hb] at h
      have e1 : j = i := Nat.eq_of_beq_eq_true hb
      have e2 : w = v := Option.some.inj h
      rw [← e1, ← e2]
      exact List.mem_cons_self
    | false =>
      rw [hb] at h
      exact List.mem_cons_of_mem _ (jw_lk_mem h)
theorem jw_at {ls : Array Slot} {n : Nat} {lc : List (Nat × Value)} (h : lv_has ls n lc) {i : Nat} {v : Value} (hv : jw_lk lc i = some v) : ls[i]? = some (.val v) := h.2.2 (i, v) (jw_lk_mem hv)
def jw_sb (lc : List (Nat × Value)) : List (Nat × Value) → Prop
  | [] => True
  | q :: t => jw_lk lc q.1 = some q.2 ∧ jw_sb lc t
theorem jw_sb_of {ls : Array Slot} {n : Nat} {lc : List (Nat × Value)} (h : lv_has ls n lc) : ∀ {l2 : List (Nat × Value)}, jw_sb lc l2 → lv_has ls n l2
  | [], _ => ⟨h.1, h.2.1, fun _ hq => absurd hq List.not_mem_nil⟩
  | q :: t, hs => ⟨h.1, h.2.1, fun x hx => (List.mem_cons.mp hx).elim (fun e => by rw [e]; exact jw_at h hs.1) (fun hx => (jw_sb_of h hs.2).2.2 x hx)⟩
/-- a store of one word: the old list without the place, the new value in its place by the order of the numbers -/
def jw_s1 (lc : List (Nat × Value)) (i : Nat) (v : Value) : List (Nat × Value) := (i, v) :: lc.filter (fun q => !(q.1 == i) && !(q.1 + 1 == i && q.2.category == 2))
def jw_s2 (lc : List (Nat × Value)) (i : Nat) (v : Value) : List (Nat × Value) := (i, v) :: lc.filter (fun q => !(q.1 == i) && (!(q.1 == i + 1) && !(q.1 + 1 == i && q.2.category == 2)))
/-- outside of the n cells from a on nothing has changed -/
def jw_Fr (μ0 μ : jw_Mem) (a n : Nat) : Prop := ∀ q, (q < a ∨ a + n ≤ q) → μ q = μ0 q
theorem jw_Fr.rf {μ0 : jw_Mem} {a n : Nat} : jw_Fr μ0 μ0 a n := fun _ _ => rfl
theorem jw_Fr.step {μ0 μ μ' : jw_Mem} {a n b : Nat} (h : jw_Fr μ0 μ a n) (f : ∀ q, q ≠ b → μ' q = μ q) (hb : a ≤ b ∧ b < a + n) : jw_Fr μ0 μ' a n := fun q hq => (f q (by omega)).trans (h q hq)
theorem jw_Fr.trans {μ0 μ μ' : jw_Mem} {a n b m : Nat} (h : jw_Fr μ0 μ a n) (f : jw_Fr μ μ' b m) (h1 : a ≤ b) (h2 : b + m ≤ a + n) : jw_Fr μ0 μ' a n := fun q hq => (f q (by omega)).trans (h q hq)
theorem jw_rf {F : Nat → Option Nat} {p q : Nat} (h : F p = some q) (hp : p < 2 ^ 31) : va_rf (F (nI p).toNatClampNeg) = .ref q := by rw [nI_clamp hp, h]; rfl
theorem jw_Fr.o {μ μ' : jw_Mem} {b : Nat} (f : ∀ q, q ≠ b → μ' q = μ q) : jw_Fr μ μ' b 1 := fun q hq => f q (by omega)
section Rules
variable {mi : jw_M} {o : jw_O} {k : jw_K} {kc ks pc pc' : Nat} {lc lc' : List (Nat × Value)} {st rest : List Value} {μ : jw_Mem} {hs : Nat}
theorem jw_sub (h : jw_sb lc lc') (kk : jw_X mi o k kc ks pc lc' st μ hs) : jw_X mi o k kc ks pc lc st μ hs := fun C H locs ls e1 e2 e3 e4 => kk C H locs ls e1 e2 e3 (jw_sb_of e4 h)
theorem jw_cnt {kc' ks' : Nat} (h : kc = kc') (h2 : ks = ks') (kk : jw_X mi o k kc' ks' pc lc st μ hs) : jw_X mi o k kc ks pc lc st μ hs := by subst h; subst h2; exact kk
theorem jw_hs {hs' : Nat} (h : hs = hs') (kk : jw_X mi o k kc ks pc lc st μ hs') : jw_X mi o k kc ks pc lc st μ hs := h ▸ kk
theorem jw_top {v w : Value} (h : v = w) (kk : jw_X mi o k kc ks pc lc (w :: rest) μ hs) : jw_X mi o k kc ks pc lc (v :: rest) μ hs := h ▸ kk
theorem jw_mu {μ' : jw_Mem} (h : μ = μ') (kk : jw_X mi o k kc ks pc lc st μ' hs) : jw_X mi o k kc ks pc lc st μ hs := h ▸ kk
/-- less known -/
theorem jw_less {μ' : jw_Mem} (h : ∀ a e, μ' a = some e → μ a = some e) (kk : jw_X mi o k kc ks pc lc st μ' hs) : jw_X mi o k kc ks pc lc st μ hs := fun C H locs ls e1 e2 e3 e4 => kk C H locs ls e1 (fun a e q => e2 a e (h a e q)) e3 e4
theorem jw_iconst {n : Int} {v : Int32} (hd : decode mi.2.1 pc = .ok (.iconst n, 1)) (hv : Int32.ofInt n = v) (hp : pc + 1 = pc') (kk : jw_X mi o k kc ks pc' lc (.int v :: st) μ hs) : jw_X mi o k kc ks pc lc st μ hs := by
  subst hp; exact fun C H locs ls e1 e2 e3 e4 => lv_iconst C.1 C.2.1 hd hv (kk C H locs ls e1 e2 e3 e4)
theorem jw_bipush {n : Int} {v : Int32} (hd : decode mi.2.1 pc = .ok (.bipush n, 2)) (hv : (Int8.ofInt n).toInt32 = v) (hp : pc + 2 = pc') (kk : jw_X mi o k kc ks pc' lc (.int v :: st) μ hs) : jw_X mi o k kc ks pc lc st μ hs := by
  subst hp; exact fun C H locs ls e1 e2 e3 e4 => lv_bipush C.1 C.2.1 hd hv (kk C H locs ls e1 e2 e3 e4)
theorem jw_sipush {n : Int} {v : Int32} (hd : decode mi.2.1 pc = .ok (.sipush n, 3)) (hv : (Int16.ofInt n).toInt32 = v) (hp : pc + 3 = pc') (kk : jw_X mi o k kc ks pc' lc (.int v :: st) μ hs) : jw_X mi o k kc ks pc lc st μ hs := by
  subst hp; exact fun C H locs ls e1 e2 e3 e4 => lv_sipush C.1 C.2.1 hd hv (kk C H locs ls e1 e2 e3 e4)
theorem jw_null (hd : decode mi.2.1 pc = .ok (.aconst_null, 1)) (hp : pc + 1 = pc') (kk : jw_X mi o k kc ks pc' lc (.null :: st) μ hs) : jw_X mi o k kc ks pc lc st μ hs := by
  subst hp; exact fun C H locs ls e1 e2 e3 e4 => lv_null C.1 C.2.1 hd (kk C H locs ls e1 e2 e3 e4)
theorem jw_ldc2 {idx : Nat} {v : Int64} (hd : decode mi.2.1 pc = .ok (.ldc2_w idx, 3)) (hw : Cond.constantLong mi.1.cls idx v ∈ jw_T) (hp : pc + 3 = pc') (kk : jw_X mi o k kc ks pc' lc (.long v :: st) μ hs) : jw_X mi o k kc ks pc lc st μ hs := by
  subst hp; exact fun C H locs ls e1 e2 e3 e4 => lv_ldc2 C.1 C.2.1 C.2.2.2.2.1 (C.2.2.2.2.2.1 _ hw) hd (kk C H locs ls e1 e2 e3 e4)
theorem jw_iload_n {n : Fin 4} {i : Nat} {x : Int32} (hd : decode mi.2.1 pc = .ok (.iload_n n, 1)) (hi : (n : Nat) = i) (hv : jw_lk lc i = some (.int x)) (hp : pc + 1 = pc') (kk : jw_X mi o k kc ks pc' lc (.int x :: st) μ hs) : jw_X mi o k kc ks pc lc st μ hs := by
  subst hp; exact fun C H locs ls e1 e2 e3 e4 => lv_iload_n C.1 C.2.1 hd hi (jw_at e4 hv) (kk C H locs ls e1 e2 e3 e4)
theorem jw_iload {i : Nat} {x : Int32} (hd : decode mi.2.1 pc = .ok (.iload i, 2)) (hv : jw_lk lc i = some (.int x)) (hp : pc + 2 = pc') (kk : jw_X mi o k kc ks pc' lc (.int x :: st) μ hs) : jw_X mi o k kc ks pc lc st μ hs := by
  subst hp; exact fun C H locs ls e1 e2 e3 e4 => lv_iload C.1 C.2.1 hd (jw_at e4 hv) (kk C H locs ls e1 e2 e3 e4)
theorem jw_lload_n {n : Fin 4} {i : Nat} {x : Int64} (hd : decode mi.2.1 pc = .ok (.lload_n n, 1)) (hi : (n : Nat) = i) (hv : jw_lk lc i = some (.long x)) (hp : pc + 1 = pc') (kk : jw_X mi o k kc ks pc' lc (.long x :: st) μ hs) : jw_X mi o k kc ks pc lc st μ hs := by
  subst hp; exact fun C H locs ls e1 e2 e3 e4 => lv_lload_n C.1 C.2.1 hd hi (jw_at e4 hv) (kk C H locs ls e1 e2 e3 e4)
theorem jw_lload {i : Nat} {x : Int64} (hd : decode mi.2.1 pc = .ok (.lload i, 2)) (hv : jw_lk lc i = some (.long x)) (hp : pc + 2 = pc') (kk : jw_X mi o k kc ks pc' lc (.long x :: st) μ hs) : jw_X mi o k kc ks pc lc st μ hs := by
  subst hp; exact fun C H locs ls e1 e2 e3 e4 => lv_lload C.1 C.2.1 hd (jw_at e4 hv) (kk C H locs ls e1 e2 e3 e4)
theorem jw_aload_n {n : Fin 4} {i x : Nat} (hd : decode mi.2.1 pc = .ok (.aload_n n, 1)) (hi : (n : Nat) = i) (hv : jw_lk lc i = some (.ref x)) (hp : pc + 1 = pc') (kk : jw_X mi o k kc ks pc' lc (.ref x :: st) μ hs) : jw_X mi o k kc ks pc lc st μ hs := by
  subst hp; exact fun C H locs ls e1 e2 e3 e4 => lv_aload_n C.1 C.2.1 hd hi (jw_at e4 hv) (kk C H locs ls e1 e2 e3 e4)
theorem jw_aload {i x : Nat} (hd : decode mi.2.1 pc = .ok (.aload i, 2)) (hv : jw_lk lc i = some (.ref x)) (hp : pc + 2 = pc') (kk : jw_X mi o k kc ks pc' lc (.ref x :: st) μ hs) : jw_X mi o k kc ks pc lc st μ hs := by
  subst hp; exact fun C H locs ls e1 e2 e3 e4 => lv_aload C.1 C.2.1 hd (jw_at e4 hv) (kk C H locs ls e1 e2 e3 e4)
theorem jw_aload_nN {n : Fin 4} {i : Nat} (hd : decode mi.2.1 pc = .ok (.aload_n n, 1)) (hi : (n : Nat) = i) (hv : jw_lk lc i = some .null) (hp : pc + 1 = pc') (kk : jw_X mi o k kc ks pc' lc (.null :: st) μ hs) : jw_X mi o k kc ks pc lc st μ hs := by
  subst hp; exact fun C H locs ls e1 e2 e3 e4 => lv_aload_nN C.1 C.2.1 hd hi (jw_at e4 hv) (kk C H locs ls e1 e2 e3 e4)
theorem jw_aloadN {i : Nat} (hd : decode mi.2.1 pc = .ok (.aload i, 2)) (hv : jw_lk lc i = some .null) (hp : pc + 2 = pc') (kk : jw_X mi o k kc ks pc' lc (.null :: st) μ hs) : jw_X mi o k kc ks pc lc st μ hs := by
  subst hp; exact fun C H locs ls e1 e2 e3 e4 => lv_aloadN C.1 C.2.1 hd (jw_at e4 hv) (kk C H locs ls e1 e2 e3 e4)
theorem jw_istore_n {n : Fin 4} {i : Nat} {x : Int32} (hd : decode mi.2.1 pc = .ok (.istore_n n, 1)) (hi : (n : Nat) = i) (hn : i < mi.2.2.1) (hl : jw_sb (jw_s1 lc i (.int x)) lc') (hp : pc + 1 = pc') (kk : jw_X mi o k kc ks pc' lc' st μ hs) : jw_X mi o k kc ks pc lc (.int x :: st) μ hs := by
  subst hp; exact fun C H locs ls e1 e2 e3 e4 => lv_istore_n C.1 C.2.1 hd hi e4 hn rfl (fun ls' e5 => kk C H locs ls' e1 e2 e3 (jw_sb_of e5 hl))
theorem jw_istore {i : Nat} {x : Int32} (hd : decode mi.2.1 pc = .ok (.istore i, 2)) (hn : i < mi.2.2.1) (hl : jw_sb (jw_s1 lc i (.int x)) lc') (hp : pc + 2 = pc') (kk : jw_X mi o k kc ks pc' lc' st μ hs) : jw_X mi o k kc ks pc lc (.int x :: st) μ hs := by
  subst hp; exact fun C H locs ls e1 e2 e3 e4 => lv_istore C.1 C.2.1 hd e4 hn rfl (fun ls' e5 => kk C H locs ls' e1 e2 e3 (jw_sb_of e5 hl))
theorem jw_lstore_n {n : Fin 4} {i : Nat} {x : Int64} (hd : decode mi.2.1 pc = .ok (.lstore_n n, 1)) (hi : (n : Nat) = i) (hn : i + 1 < mi.2.2.1) (hl : jw_sb (jw_s2 lc i (.long x)) lc') (hp : pc + 1 = pc') (kk : jw_X mi o k kc ks pc' lc' st μ hs) : jw_X mi o k kc ks pc lc (.long x :: st) μ hs := by
  subst hp; exact fun C H locs ls e1 e2 e3 e4 => lv_lstore_n C.1 C.2.1 hd hi e4 hn rfl (fun ls' e5 => kk C H locs ls' e1 e2 e3 (jw_sb_of e5 hl))
theorem jw_lstore {i : Nat} {x : Int64} (hd : decode mi.2.1 pc = .ok (.lstore i, 2)) (hn : i + 1 < mi.2.2.1) (hl : jw_sb (jw_s2 lc i (.long x)) lc') (hp : pc + 2 = pc') (kk : jw_X mi o k kc ks pc' lc' st μ hs) : jw_X mi o k kc ks pc lc (.long x :: st) μ hs := by
  subst hp; exact fun C H locs ls e1 e2 e3 e4 => lv_lstore C.1 C.2.1 hd e4 hn rfl (fun ls' e5 => kk C H locs ls' e1 e2 e3 (jw_sb_of e5 hl))
theorem jw_astore_n {n : Fin 4} {i x : Nat} (hd : decode mi.2.1 pc = .ok (.astore_n n, 1)) (hi : (n : Nat) = i) (hn : i < mi.2.2.1) (hl : jw_sb (jw_s1 lc i (.ref x)) lc') (hp : pc + 1 = pc') (kk : jw_X mi o k kc ks pc' lc' st μ hs) : jw_X mi o k kc ks pc lc (.ref x :: st) μ hs := by
  subst hp; exact fun C H locs ls e1 e2 e3 e4 => lv_astore_n C.1 C.2.1 hd hi e4 hn rfl (fun ls' e5 => kk C H locs ls' e1 e2 e3 (jw_sb_of e5 hl))
theorem jw_astore {i x : Nat} (hd : decode mi.2.1 pc = .ok (.astore i, 2)) (hn : i < mi.2.2.1) (hl : jw_sb (jw_s1 lc i (.ref x)) lc') (hp : pc + 2 = pc') (kk : jw_X mi o k kc ks pc' lc' st μ hs) : jw_X mi o k kc ks pc lc (.ref x :: st) μ hs := by
  subst hp; exact fun C H locs ls e1 e2 e3 e4 => lv_astore C.1 C.2.1 hd e4 hn rfl (fun ls' e5 => kk C H locs ls' e1 e2 e3 (jw_sb_of e5 hl))
theorem jw_astore_nN {n : Fin 4} {i : Nat} (hd : decode mi.2.1 pc = .ok (.astore_n n, 1)) (hi : (n : Nat) = i) (hn : i < mi.2.2.1) (hl : jw_sb (jw_s1 lc i .null) lc') (hp : pc + 1 = pc') (kk : jw_X mi o k kc ks pc' lc' st μ hs) : jw_X mi o k kc ks pc lc (.null :: st) μ hs := by
  subst hp; exact fun C H locs ls e1 e2 e3 e4 => lv_astore_nN C.1 C.2.1 hd hi e4 hn rfl (fun ls' e5 => kk C H locs ls' e1 e2 e3 (jw_sb_of e5 hl))
theorem jw_astoreN {i : Nat} (hd : decode mi.2.1 pc = .ok (.astore i, 2)) (hn : i < mi.2.2.1) (hl : jw_sb (jw_s1 lc i .null) lc') (hp : pc + 2 = pc') (kk : jw_X mi o k kc ks pc' lc' st μ hs) : jw_X mi o k kc ks pc lc (.null :: st) μ hs := by
  subst hp; exact fun C H locs ls e1 e2 e3 e4 => lv_astoreN C.1 C.2.1 hd e4 hn rfl (fun ls' e5 => kk C H locs ls' e1 e2 e3 (jw_sb_of e5 hl))
theorem jw_iinc {i : Nat} {n : Int} {x v : Int32} (hd : decode mi.2.1 pc = .ok (.iinc i n, 3)) (hv : jw_lk lc i = some (.int x)) (hx : x + Int32.ofInt n = v) (hn : i < mi.2.2.1) (hl : jw_sb (jw_s1 lc i (.int v)) lc') (hp : pc + 3 = pc') (kk : jw_X mi o k kc ks pc' lc' st μ hs) : jw_X mi o k kc ks pc lc st μ hs := by
  subst hp
  intro C H locs ls e1 e2 e3 e4
  obtain ⟨j, hj⟩ := List.getElem?_of_mem (jw_lk_mem hv)
  exact lv_iinc C.1 C.2.1 hd e4 hj hx hn rfl (fun ls' e5 => kk C H locs ls' e1 e2 e3 (jw_sb_of e5 hl))
theorem jw_iadd {x y v : Int32} (hd : decode mi.2.1 pc = .ok (.iadd, 1)) (hv : x + y = v) (hp : pc + 1 = pc') (kk : jw_X mi o k kc ks pc' lc (.int v :: rest) μ hs) : jw_X mi o k kc ks pc lc (.int y :: .int x :: rest) μ hs := by
  subst hp; subst hv; exact fun C H locs ls e1 e2 e3 e4 => lv_iadd C.1 C.2.1 hd (kk C H locs ls e1 e2 e3 e4)
theorem jw_isub {x y v : Int32} (hd : decode mi.2.1 pc = .ok (.isub, 1)) (hv : x - y = v) (hp : pc + 1 = pc') (kk : jw_X mi o k kc ks pc' lc (.int v :: rest) μ hs) : jw_X mi o k kc ks pc lc (.int y :: .int x :: rest) μ hs := by
  subst hp; subst hv; exact fun C H locs ls e1 e2 e3 e4 => lv_isub C.1 C.2.1 hd (kk C H locs ls e1 e2 e3 e4)
theorem jw_imul {x y v : Int32} (hd : decode mi.2.1 pc = .ok (.imul, 1)) (hv : x * y = v) (hp : pc + 1 = pc') (kk : jw_X mi o k kc ks pc' lc (.int v :: rest) μ hs) : jw_X mi o k kc ks pc lc (.int y :: .int x :: rest) μ hs := by
  subst hp; subst hv; exact fun C H locs ls e1 e2 e3 e4 => lv_imul C.1 C.2.1 hd (kk C H locs ls e1 e2 e3 e4)
theorem jw_iand {x y v : Int32} (hd : decode mi.2.1 pc = .ok (.iand, 1)) (hv : x &&& y = v) (hp : pc + 1 = pc') (kk : jw_X mi o k kc ks pc' lc (.int v :: rest) μ hs) : jw_X mi o k kc ks pc lc (.int y :: .int x :: rest) μ hs := by
  subst hp; subst hv; exact fun C H locs ls e1 e2 e3 e4 => lv_iand C.1 C.2.1 hd (kk C H locs ls e1 e2 e3 e4)
theorem jw_ior {x y v : Int32} (hd : decode mi.2.1 pc = .ok (.ior, 1)) (hv : x ||| y = v) (hp : pc + 1 = pc') (kk : jw_X mi o k kc ks pc' lc (.int v :: rest) μ hs) : jw_X mi o k kc ks pc lc (.int y :: .int x :: rest) μ hs := by
  subst hp; subst hv; exact fun C H locs ls e1 e2 e3 e4 => lv_ior C.1 C.2.1 hd (kk C H locs ls e1 e2 e3 e4)
theorem jw_idiv {x y v : Int32} (hd : decode mi.2.1 pc = .ok (.idiv, 1)) (h0 : ¬ y = 0) (hv : x / y = v) (hp : pc + 1 = pc') (kk : jw_X mi o k kc ks pc' lc (.int v :: rest) μ hs) : jw_X mi o k kc ks pc lc (.int y :: .int x :: rest) μ hs := by
  subst hp; subst hv; exact fun C H locs ls e1 e2 e3 e4 => lv_idiv C.1 C.2.1 hd h0 (kk C H locs ls e1 e2 e3 e4)
theorem jw_irem {x y v : Int32} (hd : decode mi.2.1 pc = .ok (.irem, 1)) (h0 : ¬ y = 0) (hv : x - x / y * y = v) (hp : pc + 1 = pc') (kk : jw_X mi o k kc ks pc' lc (.int v :: rest) μ hs) : jw_X mi o k kc ks pc lc (.int y :: .int x :: rest) μ hs := by
  subst hp; subst hv; exact fun C H locs ls e1 e2 e3 e4 => lv_irem C.1 C.2.1 hd h0 (kk C H locs ls e1 e2 e3 e4)
theorem jw_ishl {x y v : Int32} (hd : decode mi.2.1 pc = .ok (.ishl, 1)) (hv : x <<< (y &&& 31) = v) (hp : pc + 1 = pc') (kk : jw_X mi o k kc ks pc' lc (.int v :: rest) μ hs) : jw_X mi o k kc ks pc lc (.int y :: .int x :: rest) μ hs := by
  subst hp; subst hv; exact fun C H locs ls e1 e2 e3 e4 => lv_ishl C.1 C.2.1 hd (kk C H locs ls e1 e2 e3 e4)
theorem jw_ishr {x y v : Int32} (hd : decode mi.2.1 pc = .ok (.ishr, 1)) (hv : x >>> (y &&& 31) = v) (hp : pc + 1 = pc') (kk : jw_X mi o k kc ks pc' lc (.int v :: rest) μ hs) : jw_X mi o k kc ks pc lc (.int y :: .int x :: rest) μ hs := by
  subst hp; subst hv; exact fun C H locs ls e1 e2 e3 e4 => lv_ishr C.1 C.2.1 hd (kk C H locs ls e1 e2 e3 e4)
theorem jw_iushr {x y v : Int32} (hd : decode mi.2.1 pc = .ok (.iushr, 1)) (hv : (x.toUInt32 >>> (y.toUInt32 &&& Int32.toUInt32 31)).toInt32 = v) (hp : pc + 1 = pc') (kk : jw_X mi o k kc ks pc' lc (.int v :: rest) μ hs) : jw_X mi o k kc ks pc lc (.int y :: .int x :: rest) μ hs := by
  subst hp; exact fun C H locs ls e1 e2 e3 e4 => lv_iushr C.1 C.2.1 hd hv (kk C H locs ls e1 e2 e3 e4)
theorem jw_ldcw {idx : Nat} {v : Int32} (hd : decode mi.2.1 pc = .ok (.ldc_w idx, 3)) (hw : Cond.constant mi.1.cls idx v ∈ jw_T) (hp : pc + 3 = pc') (kk : jw_X mi o k kc ks pc' lc (.int v :: st) μ hs) : jw_X mi o k kc ks pc lc st μ hs := by
  subst hp; exact fun C H locs ls e1 e2 e3 e4 => lv_ldcw C.1 C.2.1 C.2.2.2.2.1 (C.2.2.2.2.2.1 _ hw) hd (kk C H locs ls e1 e2 e3 e4)
theorem jw_ladd {x y v : Int64} (hd : decode mi.2.1 pc = .ok (.ladd, 1)) (hv : x + y = v) (hp : pc + 1 = pc') (kk : jw_X mi o k kc ks pc' lc (.long v :: rest) μ hs) : jw_X mi o k kc ks pc lc (.long y :: .long x :: rest) μ hs := by
  subst hp; subst hv; exact fun C H locs ls e1 e2 e3 e4 => lv_ladd C.1 C.2.1 hd (kk C H locs ls e1 e2 e3 e4)
theorem jw_lmul {x y v : Int64} (hd : decode mi.2.1 pc = .ok (.lmul, 1)) (hv : x * y = v) (hp : pc + 1 = pc') (kk : jw_X mi o k kc ks pc' lc (.long v :: rest) μ hs) : jw_X mi o k kc ks pc lc (.long y :: .long x :: rest) μ hs := by
  subst hp; subst hv; exact fun C H locs ls e1 e2 e3 e4 => lv_lmul C.1 C.2.1 hd (kk C H locs ls e1 e2 e3 e4)
theorem jw_i2l {x : Int32} {v : Int64} (hd : decode mi.2.1 pc = .ok (.i2l, 1)) (hv : x.toInt64 = v) (hp : pc + 1 = pc') (kk : jw_X mi o k kc ks pc' lc (.long v :: rest) μ hs) : jw_X mi o k kc ks pc lc (.int x :: rest) μ hs := by
  subst hp; exact fun C H locs ls e1 e2 e3 e4 => lv_i2l C.1 C.2.1 hd hv (kk C H locs ls e1 e2 e3 e4)
theorem jw_i2d {x : Int32} (hd : decode mi.2.1 pc = .ok (.i2d, 1)) (hp : pc + 1 = pc') (kk : jw_X mi o k kc ks pc' lc (.double (FP.i2d x) :: rest) μ hs) : jw_X mi o k kc ks pc lc (.int x :: rest) μ hs := by
  subst hp; exact fun C H locs ls e1 e2 e3 e4 => lv_i2d C.1 C.2.1 hd (kk C H locs ls e1 e2 e3 e4)
theorem jw_dconst0  (hd : decode mi.2.1 pc = .ok (.dconst 0, 1)) (hp : pc + 1 = pc') (kk : jw_X mi o k kc ks pc' lc (.double FP.dconst0 :: st) μ hs) : jw_X mi o k kc ks pc lc st μ hs := by
  subst hp; exact fun C H locs ls e1 e2 e3 e4 => lv_dconst0 C.1 C.2.1 hd (kk C H locs ls e1 e2 e3 e4)
theorem jw_lcmp {x y : Int64} {v : Int32} (hd : decode mi.2.1 pc = .ok (.lcmp, 1)) (hv : lg_cmp x y = v) (hp : pc + 1 = pc') (kk : jw_X mi o k kc ks pc' lc (.int v :: rest) μ hs) : jw_X mi o k kc ks pc lc (.long y :: .long x :: rest) μ hs := by
  subst hp; subst hv; exact fun C H locs ls e1 e2 e3 e4 => W.lcmp C.1 C.2.1 hd (kk C H locs ls e1 e2 e3 e4)
theorem jw_dcmp {x y : UInt64} {op : CmpOp} {v : Int32} (hd : decode mi.2.1 pc = .ok (.dcmp op, 1)) (hv : Op.cmpValue (FP.dcmp x y) op = v) (hp : pc + 1 = pc') (kk : jw_X mi o k kc ks pc' lc (.int v :: rest) μ hs) : jw_X mi o k kc ks pc lc (.double y :: .double x :: rest) μ hs := by
  subst hp; subst hv; exact fun C H locs ls e1 e2 e3 e4 => lv_dcmp C.1 C.2.1 hd (kk C H locs ls e1 e2 e3 e4)
theorem jw_dup {v : Value} (hd : decode mi.2.1 pc = .ok (.dup, 1)) (hc : v.category = 1) (hp : pc + 1 = pc') (kk : jw_X mi o k kc ks pc' lc (v :: v :: rest) μ hs) : jw_X mi o k kc ks pc lc (v :: rest) μ hs := by
  subst hp; exact fun C H locs ls e1 e2 e3 e4 => lv_dup C.1 C.2.1 hd hc (kk C H locs ls e1 e2 e3 e4)
theorem jw_pop {v : Value} (hd : decode mi.2.1 pc = .ok (.pop, 1)) (hc : v.category = 1) (hp : pc + 1 = pc') (kk : jw_X mi o k kc ks pc' lc rest μ hs) : jw_X mi o k kc ks pc lc (v :: rest) μ hs := by
  subst hp; exact fun C H locs ls e1 e2 e3 e4 => lv_pop C.1 C.2.1 hd hc (kk C H locs ls e1 e2 e3 e4)
theorem jw_dup_x1 {v w : Value} (hd : decode mi.2.1 pc = .ok (.dup_x1, 1)) (hc : v.category = 1) (hc2 : w.category = 1) (hp : pc + 1 = pc') (kk : jw_X mi o k kc ks pc' lc (v :: w :: v :: rest) μ hs) : jw_X mi o k kc ks pc lc (v :: w :: rest) μ hs := by
  subst hp; exact fun C H locs ls e1 e2 e3 e4 => lv_dup_x1 C.1 C.2.1 hd hc hc2 (kk C H locs ls e1 e2 e3 e4)
theorem jw_dup2 {v w : Value} (hd : decode mi.2.1 pc = .ok (.dup2, 1)) (hc : v.category = 1) (hc2 : w.category = 1) (hp : pc + 1 = pc') (kk : jw_X mi o k kc ks pc' lc (v :: w :: v :: w :: rest) μ hs) : jw_X mi o k kc ks pc lc (v :: w :: rest) μ hs := by
  subst hp; exact fun C H locs ls e1 e2 e3 e4 => lv_dup2_11 C.1 C.2.1 hd hc hc2 (kk C H locs ls e1 e2 e3 e4)
theorem jw_if_eq {x : Int32} {off : Int} {tgt : Nat} (hd : decode mi.2.1 pc = .ok (.ifCond .eq off, 3)) (ht : (pc : Int) + off = (tgt : Int)) (hp : pc + 3 = pc') (kt : x = 0 → jw_X mi o k kc ks tgt lc rest μ hs) (kf : ¬ x = 0 → jw_X mi o k kc ks pc' lc rest μ hs) : jw_X mi o k kc ks pc lc (.int x :: rest) μ hs := by
  subst hp; exact fun C H locs ls e1 e2 e3 e4 => lv_if_eq C.1 C.2.1 hd ht (fun q => kt q C H locs ls e1 e2 e3 e4) (fun q => kf q C H locs ls e1 e2 e3 e4)
theorem jw_icmp_eq {x y : Int32} {off : Int} {tgt : Nat} (hd : decode mi.2.1 pc = .ok (.if_icmp .eq off, 3)) (ht : (pc : Int) + off = (tgt : Int)) (hp : pc + 3 = pc') (kt : x = y → jw_X mi o k kc ks tgt lc rest μ hs) (kf : ¬ x = y → jw_X mi o k kc ks pc' lc rest μ hs) : jw_X mi o k kc ks pc lc (.int y :: .int x :: rest) μ hs := by
  subst hp; exact fun C H locs ls e1 e2 e3 e4 => lv_icmp_eq C.1 C.2.1 hd ht (fun q => kt q C H locs ls e1 e2 e3 e4) (fun q => kf q C H locs ls e1 e2 e3 e4)
theorem jw_if_ne {x : Int32} {off : Int} {tgt : Nat} (hd : decode mi.2.1 pc = .ok (.ifCond .ne off, 3)) (ht : (pc : Int) + off = (tgt : Int)) (hp : pc + 3 = pc') (kt : ¬ x = 0 → jw_X mi o k kc ks tgt lc rest μ hs) (kf : x = 0 → jw_X mi o k kc ks pc' lc rest μ hs) : jw_X mi o k kc ks pc lc (.int x :: rest) μ hs := by
  subst hp; exact fun C H locs ls e1 e2 e3 e4 => lv_if_ne C.1 C.2.1 hd ht (fun q => kt q C H locs ls e1 e2 e3 e4) (fun q => kf q C H locs ls e1 e2 e3 e4)
theorem jw_icmp_ne {x y : Int32} {off : Int} {tgt : Nat} (hd : decode mi.2.1 pc = .ok (.if_icmp .ne off, 3)) (ht : (pc : Int) + off = (tgt : Int)) (hp : pc + 3 = pc') (kt : ¬ x = y → jw_X mi o k kc ks tgt lc rest μ hs) (kf : x = y → jw_X mi o k kc ks pc' lc rest μ hs) : jw_X mi o k kc ks pc lc (.int y :: .int x :: rest) μ hs := by
  subst hp; exact fun C H locs ls e1 e2 e3 e4 => lv_icmp_ne C.1 C.2.1 hd ht (fun q => kt q C H locs ls e1 e2 e3 e4) (fun q => kf q C H locs ls e1 e2 e3 e4)
theorem jw_if_lt {x : Int32} {off : Int} {tgt : Nat} (hd : decode mi.2.1 pc = .ok (.ifCond .lt off, 3)) (ht : (pc : Int) + off = (tgt : Int)) (hp : pc + 3 = pc') (kt : x < 0 → jw_X mi o k kc ks tgt lc rest μ hs) (kf : ¬ x < 0 → jw_X mi o k kc ks pc' lc rest μ hs) : jw_X mi o k kc ks pc lc (.int x :: rest) μ hs := by
  subst hp; exact fun C H locs ls e1 e2 e3 e4 => lv_if_lt C.1 C.2.1 hd ht (fun q => kt q C H locs ls e1 e2 e3 e4) (fun q => kf q C H locs ls e1 e2 e3 e4)
theorem jw_icmp_lt {x y : Int32} {off : Int} {tgt : Nat} (hd : decode mi.2.1 pc = .ok (.if_icmp .lt off, 3)) (ht : (pc : Int) + off = (tgt : Int)) (hp : pc + 3 = pc') (kt : x < y → jw_X mi o k kc ks tgt lc rest μ hs) (kf : ¬ x < y → jw_X mi o k kc ks pc' lc rest μ hs) : jw_X mi o k kc ks pc lc (.int y :: .int x :: rest) μ hs := by
  subst hp; exact fun C H locs ls e1 e2 e3 e4 => lv_icmp_lt C.1 C.2.1 hd ht (fun q => kt q C H locs ls e1 e2 e3 e4) (fun q => kf q C H locs ls e1 e2 e3 e4)
theorem jw_if_ge {x : Int32} {off : Int} {tgt : Nat} (hd : decode mi.2.1 pc = .ok (.ifCond .ge off, 3)) (ht : (pc : Int) + off = (tgt : Int)) (hp : pc + 3 = pc') (kt : 0 ≤ x → jw_X mi o k kc ks tgt lc rest μ hs) (kf : ¬ 0 ≤ x → jw_X mi o k kc ks pc' lc rest μ hs) : jw_X mi o k kc ks pc lc (.int x :: rest) μ hs := by
  subst hp; exact fun C H locs ls e1 e2 e3 e4 => lv_if_ge C.1 C.2.1 hd ht (fun q => kt q C H locs ls e1 e2 e3 e4) (fun q => kf q C H locs ls e1 e2 e3 e4)
theorem jw_icmp_ge {x y : Int32} {off : Int} {tgt : Nat} (hd : decode mi.2.1 pc = .ok (.if_icmp .ge off, 3)) (ht : (pc : Int) + off = (tgt : Int)) (hp : pc + 3 = pc') (kt : y ≤ x → jw_X mi o k kc ks tgt lc rest μ hs) (kf : ¬ y ≤ x → jw_X mi o k kc ks pc' lc rest μ hs) : jw_X mi o k kc ks pc lc (.int y :: .int x :: rest) μ hs := by
  subst hp; exact fun C H locs ls e1 e2 e3 e4 => lv_icmp_ge C.1 C.2.1 hd ht (fun q => kt q C H locs ls e1 e2 e3 e4) (fun q => kf q C H locs ls e1 e2 e3 e4)
theorem jw_if_gt {x : Int32} {off : Int} {tgt : Nat} (hd : decode mi.2.1 pc = .ok (.ifCond .gt off, 3)) (ht : (pc : Int) + off = (tgt : Int)) (hp : pc + 3 = pc') (kt : 0 < x → jw_X mi o k kc ks tgt lc rest μ hs) (kf : ¬ 0 < x → jw_X mi o k kc ks pc' lc rest μ hs) : jw_X mi o k kc ks pc lc (.int x :: rest) μ hs := by
  subst hp; exact fun C H locs ls e1 e2 e3 e4 => lv_if_gt C.1 C.2.1 hd ht (fun q => kt q C H locs ls e1 e2 e3 e4) (fun q => kf q C H locs ls e1 e2 e3 e4)
theorem jw_icmp_gt {x y : Int32} {off : Int} {tgt : Nat} (hd : decode mi.2.1 pc = .ok (.if_icmp .gt off, 3)) (ht : (pc : Int) + off = (tgt : Int)) (hp : pc + 3 = pc') (kt : y < x → jw_X mi o k kc ks tgt lc rest μ hs) (kf : ¬ y < x → jw_X mi o k kc ks pc' lc rest μ hs) : jw_X mi o k kc ks pc lc (.int y :: .int x :: rest) μ hs := by
  subst hp; exact fun C H locs ls e1 e2 e3 e4 => lv_icmp_gt C.1 C.2.1 hd ht (fun q => kt q C H locs ls e1 e2 e3 e4) (fun q => kf q C H locs ls e1 e2 e3 e4)
theorem jw_if_le {x : Int32} {off : Int} {tgt : Nat} (hd : decode mi.2.1 pc = .ok (.ifCond .le off, 3)) (ht : (pc : Int) + off = (tgt : Int)) (hp : pc + 3 = pc') (kt : x ≤ 0 → jw_X mi o k kc ks tgt lc rest μ hs) (kf : ¬ x ≤ 0 → jw_X mi o k kc ks pc' lc rest μ hs) : jw_X mi o k kc ks pc lc (.int x :: rest) μ hs := by
  subst hp; exact fun C H locs ls e1 e2 e3 e4 => lv_if_le C.1 C.2.1 hd ht (fun q => kt q C H locs ls e1 e2 e3 e4) (fun q => kf q C H locs ls e1 e2 e3 e4)
theorem jw_icmp_le {x y : Int32} {off : Int} {tgt : Nat} (hd : decode mi.2.1 pc = .ok (.if_icmp .le off, 3)) (ht : (pc : Int) + off = (tgt : Int)) (hp : pc + 3 = pc') (kt : x ≤ y → jw_X mi o k kc ks tgt lc rest μ hs) (kf : ¬ x ≤ y → jw_X mi o k kc ks pc' lc rest μ hs) : jw_X mi o k kc ks pc lc (.int y :: .int x :: rest) μ hs := by
  subst hp; exact fun C H locs ls e1 e2 e3 e4 => lv_icmp_le C.1 C.2.1 hd ht (fun q => kt q C H locs ls e1 e2 e3 e4) (fun q => kf q C H locs ls e1 e2 e3 e4)
theorem jw_goto {off : Int} {tgt : Nat} (hd : decode mi.2.1 pc = .ok (.goto off, 3)) (ht : (pc : Int) + off = (tgt : Int)) (kk : jw_X mi o k kc ks tgt lc st μ hs) : jw_X mi o k kc ks pc lc st μ hs := fun C H locs ls e1 e2 e3 e4 => lv_goto C.1 C.2.1 hd ht (kk C H locs ls e1 e2 e3 e4)
theorem jw_ifnull {x : Nat} {off : Int} (hd : decode mi.2.1 pc = .ok (.ifnull off, 3)) (hp : pc + 3 = pc') (kk : jw_X mi o k kc ks pc' lc rest μ hs) : jw_X mi o k kc ks pc lc (.ref x :: rest) μ hs := by
  subst hp; exact fun C H locs ls e1 e2 e3 e4 => lv_ifnull C.1 C.2.1 hd (kk C H locs ls e1 e2 e3 e4)
theorem jw_ifnullN {off : Int} {tgt : Nat} (hd : decode mi.2.1 pc = .ok (.ifnull off, 3)) (ht : (pc : Int) + off = (tgt : Int)) (kk : jw_X mi o k kc ks tgt lc rest μ hs) : jw_X mi o k kc ks pc lc (.null :: rest) μ hs := fun C H locs ls e1 e2 e3 e4 => lv_ifnullN C.1 C.2.1 hd ht (kk C H locs ls e1 e2 e3 e4)
theorem jw_ifnonnull {x : Nat} {off : Int} {tgt : Nat} (hd : decode mi.2.1 pc = .ok (.ifnonnull off, 3)) (ht : (pc : Int) + off = (tgt : Int)) (kk : jw_X mi o k kc ks tgt lc rest μ hs) : jw_X mi o k kc ks pc lc (.ref x :: rest) μ hs := fun C H locs ls e1 e2 e3 e4 => lv_ifnonnull C.1 C.2.1 hd ht (kk C H locs ls e1 e2 e3 e4)
theorem jw_ifnonnullN {off : Int} (hd : decode mi.2.1 pc = .ok (.ifnonnull off, 3)) (hp : pc + 3 = pc') (kk : jw_X mi o k kc ks pc' lc rest μ hs) : jw_X mi o k kc ks pc lc (.null :: rest) μ hs := by
  subst hp; exact fun C H locs ls e1 e2 e3 e4 => lv_ifnonnullN C.1 C.2.1 hd (kk C H locs ls e1 e2 e3 e4)
theorem jw_acmp_eq {rx ry : Option Nat} {off : Int} {tgt : Nat} (hd : decode mi.2.1 pc = .ok (.if_acmp .eq off, 3)) (ht : (pc : Int) + off = (tgt : Int)) (hp : pc + 3 = pc') (kt : rx = ry → jw_X mi o k kc ks tgt lc rest μ hs) (kf : ¬ rx = ry → jw_X mi o k kc ks pc' lc rest μ hs) : jw_X mi o k kc ks pc lc (va_rf ry :: va_rf rx :: rest) μ hs := by
  subst hp; exact fun C H locs ls e1 e2 e3 e4 => lv_acmp_eq C.1 C.2.1 hd ht (fun q => kt q C H locs ls e1 e2 e3 e4) (fun q => kf q C H locs ls e1 e2 e3 e4)
theorem jw_acmp_ne {rx ry : Option Nat} {off : Int} {tgt : Nat} (hd : decode mi.2.1 pc = .ok (.if_acmp .ne off, 3)) (ht : (pc : Int) + off = (tgt : Int)) (hp : pc + 3 = pc') (kt : ¬ rx = ry → jw_X mi o k kc ks tgt lc rest μ hs) (kf : rx = ry → jw_X mi o k kc ks pc' lc rest μ hs) : jw_X mi o k kc ks pc lc (va_rf ry :: va_rf rx :: rest) μ hs := by
  subst hp; exact fun C H locs ls e1 e2 e3 e4 => lv_acmp_ne C.1 C.2.1 hd ht (fun q => kt q C H locs ls e1 e2 e3 e4) (fun q => kf q C H locs ls e1 e2 e3 e4)
theorem jw_tableIn {dflt lo hi : Int} {offs : Array Int} {len : Nat} {x : Int32} {off : Int} {tgt : Nat} (hd : decode mi.2.1 pc = .ok (.tableswitch dflt lo hi offs, len)) (h1 : ¬ x.toInt < lo) (h2 : ¬ hi < x.toInt) (ho : offs[(x.toInt - lo).toNat]? = some off) (ht : (pc : Int) + off = (tgt : Int)) (kk : jw_X mi o k kc ks tgt lc rest μ hs) : jw_X mi o k kc ks pc lc (.int x :: rest) μ hs := fun C H locs ls e1 e2 e3 e4 => lv_tableIn C.1 C.2.1 hd h1 h2 ho ht (kk C H locs ls e1 e2 e3 e4)
theorem jw_tableOut {dflt lo hi : Int} {offs : Array Int} {len : Nat} {x : Int32} {tgt : Nat} (hd : decode mi.2.1 pc = .ok (.tableswitch dflt lo hi offs, len)) (h : x.toInt < lo ∨ hi < x.toInt) (ht : (pc : Int) + dflt = (tgt : Int)) (kk : jw_X mi o k kc ks tgt lc rest μ hs) : jw_X mi o k kc ks pc lc (.int x :: rest) μ hs := fun C H locs ls e1 e2 e3 e4 => lv_tableOut C.1 C.2.1 hd h ht (kk C H locs ls e1 e2 e3 e4)
theorem jw_lookup {dflt : Int} {ps : Array (Int × Int)} {len : Nat} {x : Int32} {off : Int} {tgt : Nat} (hd : decode mi.2.1 pc = .ok (.lookupswitch dflt ps, len)) (hp : (ps.toList.zip (ps.toList.drop 1)).all (fun (a, next) => a.1 < next.1) = true) (ho : Op.lookupswitch.offset ps.toList dflt x.toInt = off) (ht : (pc : Int) + off = (tgt : Int)) (kk : jw_X mi o k kc ks tgt lc rest μ hs) : jw_X mi o k kc ks pc lc (.int x :: rest) μ hs := fun C H locs ls e1 e2 e3 e4 => lv_lookup C.1 C.2.1 hd hp ho ht (kk C H locs ls e1 e2 e3 e4)
theorem jw_Cx.hK (C : jw_Cx mi o k) : va_K o.2.1 jw_cl (jw_tys o.2.2.1) k.2.2.2.1 := C.2.2.2.2.2.2.2.2.1
theorem jw_Cx.ts (C : jw_Cx mi o k) : ∀ w ∈ jw_T, w.before k.2.2.2.2.2.1 k.2.2.2.1 = true := C.2.2.2.2.2.1
theorem jw_Cx.own (C : jw_Cx mi o k) : k.2.2.2.1.vm.findClass mi.1.cls = some k.2.2.2.2.1.cls := C.2.2.2.2.1
theorem jw_Cx.S (C : jw_Cx mi o k) : jw_S k.2.2.2.1 := C.2.2.2.2.2.2.2.2.2.1
theorem jw_Cx.lo (C : jw_Cx mi o k) : o.2.2.2.1 ≤ k.2.2.2.1.heap.size := C.2.2.2.2.2.2.2.2.2.2.1
theorem jw_Cx.xB (C : jw_Cx mi o k) : jw_xB o k.2.2.2.1 k.2.2.2.1.heap := C.2.2.2.2.2.2.2.2.2.2.2
theorem jw_one {H : Heap} {a : Nat} {e : va_E} (h : jw_H o μ H) (ha : μ a = some e) : va_P o.2.1 jw_cl [(a, e)] H := by
  intro j q hj
  have hl : j < 1 := (List.getElem?_eq_some_iff.mp hj).1
  rw [show j = 0 by omega] at hj
  cases hj
  exact (h a e ha).2
theorem jw_H.put {H H1 : Heap} {a : Nat} {e0 e : va_E} (h : jw_H o μ H) (ha : μ a = some e0) (he : va_at o.2.1 jw_cl (a, e) H1) (oq : ∀ q : Nat, q ≠ a → H1[q]? = H[q]?) : jw_H o (va_up μ a (some e)) H1 := by
  have hlo := (h a e0 ha).1
  intro b x hb
  by_cases hba : b = a
  · subst hba
    rw [va_up_self] at hb
    cases hb
    exact ⟨hlo, he⟩
  · rw [va_up_ne _ _ hba] at hb
    exact ⟨(h b x hb).1, (h b x hb).2.kept (oq b hba)⟩
theorem jw_H.push {H H1 : Heap} {e : va_E} (h : jw_H o μ H) (hlo : o.2.2.2.1 ≤ H.size) (he : va_at o.2.1 jw_cl (H.size, e) H1) (oq : ∀ q : Nat, q < H.size → H1[q]? = H[q]?) : jw_H o (va_up μ H.size (some e)) H1 := by
  intro b x hb
  by_cases hba : b = H.size
  · subst hba
    rw [va_up_self] at hb
    cases hb
    exact ⟨hlo, he⟩
  · rw [va_up_ne _ _ hba] at hb
    exact ⟨(h b x hb).1, (h b x hb).2.kept (oq b ((h b x hb).2.lt))⟩
theorem jw_grow {H H1 : Heap} {H0 : Heap} {locs : List Loc} {A : Nat → Prop} (hS : va_S A H0 H locs) (z1 : H1.size = H.size + 1) (o1 : ∀ q : Nat, q < H.size → H1[q]? = H[q]?) : va_S A H0 H1 locs := ⟨Nat.le_trans hS.1 (by omega), fun x h1 h2 => (o1 x (Nat.lt_of_lt_of_le h1 hS.1)).trans (hS.2.1 x h1 h2), hS.2.2⟩
theorem jw_get {a ci kf N idx : Nat} {fs : List Value} {C : String} {T : u_T} {v : Value} (hc : jw_cl[ci]? = some (C, T, N)) (hk : kf < N) (hw : Cond.fieldLink mi.1.cls idx (T kf).1 (T kf).2.1 (T kf).2.2.1 ∈ jw_T) (hd : decode mi.2.1 pc = .ok (.getfield idx, 3)) (ha : μ a = some (.inr (ci, fs))) (hv : fs[kf]? = some v) (hp : pc + 3 = pc') (kk : jw_X mi o k kc ks pc' lc (v :: rest) μ hs) : jw_X mi o k kc ks pc lc (.ref a :: rest) μ hs := by
  subst hp
  exact fun C0 H locs ls e1 e2 e3 e4 => va_get C0.1 C0.2.1 C0.ts (jw_cw _ (List.mem_of_getElem? hc)) C0.own C0.hK (jw_one e2 ha) 0 rfl hc kf hk (C0.ts _ hw) (fun _ h9 => h9) hv hd (kk C0 H locs ls e1 e2 e3 e4)
theorem jw_put {a ci kf N idx : Nat} {fs fs' : List Value} {C : String} {T : u_T} {v : Value} {ty : FieldType} (hc : jw_cl[ci]? = some (C, T, N)) (hk : kf < N) (hw : Cond.fieldLink mi.1.cls idx (T kf).1 (T kf).2.1 (T kf).2.2.1 ∈ jw_T) (hd : decode mi.2.1 pc = .ok (.putfield idx, 3)) (hfin : (T kf).2.2.2 = false) (hty : parseFieldDescriptor (T kf).2.2.1 = some ty) (ha : μ a = some (.inr (ci, fs))) (hn : narrow ty v = v) (hfit : fits ty v = true) (hfs : fs.set kf v = fs') (hl : kf < fs.length) (hp : pc + 3 = pc') (kk : ∀ μ' : jw_Mem, μ' a = some (.inr (ci, fs')) → (∀ q, q ≠ a → μ' q = μ q) → jw_X mi o k kc ks pc' lc rest μ' hs) : jw_X mi o k kc ks pc lc (v :: .ref a :: rest) μ hs := by
  subst hp; subst hfs
  intro C0 H locs ls e1 e2 e3 e4
  have hts := C0.ts
  have hin := jw_cw _ (List.mem_of_getElem? hc)
  have hap := va_apart (own := mi.1.cls) hts hin (jw_ty0 T) (jw_tyok _ (List.mem_of_getElem? hc)) (jw_nmok _ (List.mem_of_getElem? hc)) C0.hK hc
  obtain ⟨r, h1, cell, q1, q2, q3, q4⟩ := (e2 a _ ha).2
  have hr : r = (C, T, N) := Option.some.inj (h1.symm.trans hc)
  subst hr
  obtain ⟨hS, hfc, kC, hkC, hkind⟩ := C0.hK.1 ci _ hc
  obtain ⟨cf, kf1, fi, f, hi, hsl⟩ := hS kf hk
  have hlay := hts _ (hin _ (u_in_lay hk))
  unfold u_lay at hlay
  rw [if_neg (by rw [hfin]; decide)] at hlay
  have hst := (u_facts hfc hkC (u_lays hts hin hk) hi).1
  have h6 := u_store hfc hkC hkind hlay hi hty hn hfit
  refine W.putK C0.1 C0.2.1 (f := f) ⟨C0.own, hts _ hw, ⟨_, _, _, hi⟩, hst⟩ (by rw [q2]; exact h6) q1 q3 (by rw [hsl]; exact k2_hasslot (q4 kf hk)) rfl rfl hd fun H' g1 g2 g3 => ?_
  rw [hsl] at g1 ⊢
  exact kk _ (va_up_self _ _ _) (fun q hq => va_up_ne _ _ hq) C0 H' _ ls (g2.trans e1) (e2.put ha ⟨_, hc, t_OB.to (V := updV (vp_V fs) kf v) ⟨_, g1, q2, q3, t_set q4 hap hk v⟩ (fun j _ => vp_updV_set hl v j)⟩ g3) (e3.put g2 g3 (e2 a _ ha).1) e4
theorem jw_putF {a ci kf N idx : Nat} {fs fs' : List Value} {C : String} {T : u_T} {v : Value} {ty : FieldType} (hc : jw_cl[ci]? = some (C, T, N)) (hk : kf < N) (hw : Cond.fieldLink mi.1.cls idx (T kf).1 (T kf).2.1 (T kf).2.2.1 ∈ jw_T) (hd : decode mi.2.1 pc = .ok (.putfield idx, 3)) (hfin : (T kf).2.2.2 = true) (hin2 : mi.1.name = "<init>") (hdecl : (T kf).1 = mi.1.cls) (hty : parseFieldDescriptor (T kf).2.2.1 = some ty) (ha : μ a = some (.inr (ci, fs))) (hn : narrow ty v = v) (hfit : fits ty v = true) (hfs : fs.set kf v = fs') (hl : kf < fs.length) (hp : pc + 3 = pc') (kk : ∀ μ' : jw_Mem, μ' a = some (.inr (ci, fs')) → (∀ q, q ≠ a → μ' q = μ q) → jw_X mi o k kc ks pc' lc rest μ' hs) : jw_X mi o k kc ks pc lc (v :: .ref a :: rest) μ hs := by
  subst hp; subst hfs
  intro C0 H locs ls e1 e2 e3 e4
  have hts := C0.ts
  have hin := jw_cw _ (List.mem_of_getElem? hc)
  have hap := va_apart (own := mi.1.cls) hts hin (jw_ty0 T) (jw_tyok _ (List.mem_of_getElem? hc)) (jw_nmok _ (List.mem_of_getElem? hc)) C0.hK hc
  obtain ⟨r, h1, cell, q1, q2, q3, q4⟩ := (e2 a _ ha).2
  have hr : r = (C, T, N) := Option.some.inj (h1.symm.trans hc)
  subst hr
  obtain ⟨hS, hfc, kC, hkC, hkind⟩ := C0.hK.1 ci _ hc
  obtain ⟨cf, kf1, fi, f, hi, hsl⟩ := hS kf hk
  have hlay := hts _ (hin _ (u_in_lay hk))
  unfold u_lay at hlay
  rw [if_pos hfin] at hlay
  have hst := (u_facts hfc hkC (u_lays hts hin hk) hi).1
  have hcf : k.2.2.2.2.1.cls = cf := by
    obtain ⟨_, _, c', _, _, _, -, -, hf', -, -, -, hown2, -⟩ := Cond.laysFinal_spec hlay
    have x1 : c' = cf := by have := hi.symm.trans hf'; simp at this; exact this.1.symm
    rw [hdecl] at hown2
    rw [← x1]; exact Option.some.inj (C0.own.symm.trans hown2)
  have h6 := u_fits hfc hkC hkind (Or.inr hlay) hi hty hn hfit
  refine W.putFinK C0.1 C0.2.1 C0.own (hts _ hw) hi hst hcf (C0.2.2.2.2.2.2.2.1.trans hin2) (by rw [q2]; exact h6) q1 q3 (by rw [hsl]; exact k2_hasslot (q4 kf hk)) rfl rfl hd fun H' g1 g2 g3 => ?_
  rw [hsl] at g1 ⊢
  exact kk _ (va_up_self _ _ _) (fun q hq => va_up_ne _ _ hq) C0 H' _ ls (g2.trans e1) (e2.put ha ⟨_, hc, t_OB.to (V := updV (vp_V fs) kf v) ⟨_, g1, q2, q3, t_set q4 hap hk v⟩ (fun j _ => vp_updV_set hl v j)⟩ g3) (e3.put g2 g3 (e2 a _ ha).1) e4
theorem jw_new {d mc ms ci N idx : Nat} {C : String} {T : u_T} {fs : List Value} (hR : jw_Rm k d mc ms) (hc : jw_cl[ci]? = some (C, T, N)) (hw1 : Cond.classLink mi.1.cls idx C ∈ jw_T) (hw2 : Cond.instantiable C N ∈ jw_T) (hw3 : Cond.initialized C ∈ jw_T) (hd : decode mi.2.1 pc = .ok (.new idx, 3)) (hfs : (List.range N).all (fun j => decide (defaultValue (jw_ty0 T j) = vp_V fs j)) = true) (h1 : kc + 1 ≤ mc) (h2 : ks + N ≤ ms) (hp : pc + 3 = pc') (kk : ∀ μ' : jw_Mem, μ' hs = some (.inr (ci, fs)) → (∀ q, q ≠ hs → μ' q = μ q) → jw_X mi o k (kc + 1) (ks + N) pc' lc (.ref hs :: st) μ' (hs + 1)) : jw_X mi o k kc ks pc lc st μ hs := by
  subst hp
  intro C0 H locs ls e1 e2 e3 e4
  subst e1
  have hKn := C0.hK.1 ci _ hc
  have hlo : o.2.2.2.1 ≤ H.size := Nat.le_trans C0.lo e3.1
  refine W.newcK C0.1 C0.2.1 C0.own (C0.ts _ hw1) (C0.ts _ hw2) (C0.ts _ hw3) rfl hd (Nat.le_trans h1 hR.2.2.1) (Nat.le_trans h2 hR.2.2.2) hKn.2.1 rfl fun H1 kC hkC g1 z1 o1 => ?_
  refine kk _ (va_up_self _ _ _) (fun q hq => va_up_ne _ _ hq) C0 H1 _ ls z1 (e2.push hlo ?_ o1) (jw_grow e3 z1 o1) e4
  exact ⟨_, hc, (u_born (jw_ty0 T) C0.ts (jw_cw _ (List.mem_of_getElem? hc)) hKn hkC g1 (jw_tyok _ (List.mem_of_getElem? hc))).to (fun j hj => of_decide_eq_true (List.all_eq_true.mp hfs j (List.mem_range.mpr hj)))⟩
theorem jw_newa {d mc ms N i : Nat} {atype : ArrayType} {ty : FieldType} {n : Int32} {a0 : vp_A} (hR : jw_Rm k d mc ms) (hw : Cond.arrayClass ty ∈ jw_T) (hty : newarray.typeOf atype = ty) (ht : (jw_tys o.2.2.1)[i]? = some (o.2.2.1 i, ty)) (hd : decode mi.2.1 pc = .ok (.newarray atype, 2)) (ha : ∀ cA : ClassId, vp_cell cA a0 = arrV cA N (fun _ => defaultValue ty)) (hn : ¬ n < 0) (hN : n.toNatClampNeg = N) (hb : N * componentBytes ty ≤ 536870912) (h1 : kc + 1 ≤ mc) (h2 : ks + N ≤ ms) (hp : pc + 2 = pc') (kk : ∀ μ' : jw_Mem, μ' hs = some (.inl (o.2.2.1 i, a0)) → (∀ q, q ≠ hs → μ' q = μ q) → jw_X mi o k (kc + 1) (ks + N) pc' lc (.ref hs :: rest) μ' (hs + 1)) : jw_X mi o k kc ks pc lc (.int n :: rest) μ hs := by
  subst hp; subst hty
  intro C0 H locs ls e1 e2 e3 e4
  subst e1
  have hlo : o.2.2.2.1 ≤ H.size := Nat.le_trans C0.lo e3.1
  refine va_newaK C0.1 C0.2.1 (C0.ts _ hw) rfl hd rfl hn hN hb (Nat.le_trans h1 hR.2.2.1) (Nat.le_trans h2 hR.2.2.2) rfl fun H1 cA g1 z1 o1 hAr hNm => ?_
  have hRA := (C0.hK.2 i _ ht).2
  have hcA : cA = o.2.2.1 i := by
    have h9 : k.2.2.2.1.vm.findClass ("[" ++ (newarray.typeOf atype).toString) = some (o.2.2.1 i) := by cases atype <;> exact hRA
    exact Option.some.inj (hNm.symm.trans h9)
  subst hcA
  refine kk _ (va_up_self _ _ _) (fun q hq => va_up_ne _ _ hq) C0 H1 _ ls z1 (e2.push hlo ?_ o1) (jw_grow e3 z1 o1) e4
  show H1[H.size]? = some (vp_cell _ _)
  rw [ha]
  exact g1
theorem jw_newq {d mc ms N i idx : Nat} {C : String} {n : Int32} (hR : jw_Rm k d mc ms) (hw : Cond.classLink mi.1.cls idx C ∈ jw_T) (hao : C ∈ jw_ao) (ht : (jw_tys o.2.2.1)[i]? = some (o.2.2.1 i, .object C)) (hd : decode mi.2.1 pc = .ok (.anewarray idx, 3)) (hn : ¬ n < 0) (hN : n.toNatClampNeg = N) (hb : N * 4 ≤ 536870912) (h1 : kc + 1 ≤ mc) (h2 : ks + N ≤ ms) (hp : pc + 3 = pc') (kk : ∀ μ' : jw_Mem, μ' hs = some (.inl (o.2.2.1 i, N, .inr (.inr (.inr (.inr (fun _ => none)))))) → (∀ q, q ≠ hs → μ' q = μ q) → jw_X mi o k (kc + 1) (ks + N) pc' lc (.ref hs :: rest) μ' (hs + 1)) : jw_X mi o k kc ks pc lc (.int n :: rest) μ hs := by
  subst hp; subst hN
  intro C0 H locs ls e1 e2 e3 e4
  subst e1
  have hlo : o.2.2.2.1 ≤ H.size := Nat.le_trans C0.lo e3.1
  refine W.anew C0.1 C0.2.1 C0.own (C0.ts _ hw) (va_AO.use (C0.S.2 C hao)) rfl hd rfl hn hb (Nat.le_trans h1 hR.2.2.1) (Nat.le_trans h2 hR.2.2.2) fun cA kA comp f1 f2 f3 f4 => ?_
  generalize hH1 : H.push ({ cls := cA, slots := Array.replicate n.toNatClampNeg .null, vm := .none } : Cell) = H1
  have z1 : H1.size = H.size + 1 := by rw [← hH1, Array.size_push]
  have g1 : H1[H.size]? = some (arrV cA n.toNatClampNeg (fun _ => .null)) := by rw [← hH1, Array.getElem?_push_size, ← arrV_new]
  have o1 : ∀ q : Nat, q < H.size → H1[q]? = H[q]? := fun q hq => by rw [← hH1, Array.getElem?_push, if_neg (Nat.ne_of_lt hq)]
  obtain ⟨-, kA', comp', k1, k2, k3, k4⟩ := C0.hK.2 i _ ht
  have hcA : cA = o.2.2.1 i := Option.some.inj (f1.symm.trans k4)
  subst hcA
  refine kk _ (va_up_self _ _ _) (fun q hq => va_up_ne _ _ hq) C0 H1 _ ls z1 (e2.push hlo ?_ o1) (jw_grow e3 z1 o1) e4
  show H1[H.size]? = some (vp_cell _ _)
  rw [vp_cell_q]
  exact g1
theorem jw_alen {a i : Nat} {cA : ClassId} {x : vp_A} {ty : FieldType} {v : Int32} (hd : decode mi.2.1 pc = .ok (.arraylength, 1)) (ha : μ a = some (.inl (cA, x))) (ht : (jw_tys o.2.2.1)[i]? = some (cA, ty)) (hv : Int32.ofNat x.1 = v) (hp : pc + 1 = pc') (kk : jw_X mi o k kc ks pc' lc (.int v :: rest) μ hs) : jw_X mi o k kc ks pc lc (.ref a :: rest) μ hs := by
  subst hp
  exact fun C0 H locs ls e1 e2 e3 e4 => va_alen C0.1 C0.2.1 C0.hK (jw_one e2 ha) 0 i rfl ht hv hd (kk C0 H locs ls e1 e2 e3 e4)
theorem jw_iald {a i : Nat} {cA : ClassId} {n : Nat} {f : Nat → Int32} {x v : Int32} (hd : decode mi.2.1 pc = .ok (.iaload, 1)) (ha : μ a = some (.inl (cA, n, .inl f))) (ht : (jw_tys o.2.2.1)[i]? = some (cA, .int)) (hin : vp_in x n) (hv : f x.toNatClampNeg = v) (hp : pc + 1 = pc') (kk : jw_X mi o k kc ks pc' lc (.int v :: rest) μ hs) : jw_X mi o k kc ks pc lc (.int x :: .ref a :: rest) μ hs := by
  subst hp; subst hv
  exact fun C0 H locs ls e1 e2 e3 e4 => va_iald C0.1 C0.2.1 C0.hK (jw_one e2 ha) 0 i rfl ht hin hd (kk C0 H locs ls e1 e2 e3 e4)
theorem jw_zald {a i : Nat} {cA : ClassId} {n : Nat} {f : Nat → Int32} {x v : Int32} (hd : decode mi.2.1 pc = .ok (.baload, 1)) (ha : μ a = some (.inl (cA, n, .inl f))) (ht : (jw_tys o.2.2.1)[i]? = some (cA, .boolean)) (hin : vp_in x n) (hv : f x.toNatClampNeg = v) (hp : pc + 1 = pc') (kk : jw_X mi o k kc ks pc' lc (.int v :: rest) μ hs) : jw_X mi o k kc ks pc lc (.int x :: .ref a :: rest) μ hs := by
  subst hp; subst hv
  exact fun C0 H locs ls e1 e2 e3 e4 => va_zald C0.1 C0.2.1 C0.hK (jw_one e2 ha) 0 i rfl ht hin hd (kk C0 H locs ls e1 e2 e3 e4)
theorem jw_lald {a i : Nat} {cA : ClassId} {n : Nat} {f : Nat → Int64} {x : Int32} {v : Int64} (hd : decode mi.2.1 pc = .ok (.laload, 1)) (ha : μ a = some (.inl (cA, n, .inr (.inl f)))) (ht : (jw_tys o.2.2.1)[i]? = some (cA, .long)) (hin : vp_in x n) (hv : f x.toNatClampNeg = v) (hp : pc + 1 = pc') (kk : jw_X mi o k kc ks pc' lc (.long v :: rest) μ hs) : jw_X mi o k kc ks pc lc (.int x :: .ref a :: rest) μ hs := by
  subst hp; subst hv
  exact fun C0 H locs ls e1 e2 e3 e4 => va_lald C0.1 C0.2.1 C0.hK (jw_one e2 ha) 0 i rfl ht hin hd (kk C0 H locs ls e1 e2 e3 e4)
theorem jw_aald {a i : Nat} {cA : ClassId} {C : String} {n : Nat} {f : Nat → Option Nat} {x : Int32} {v : Value} (hd : decode mi.2.1 pc = .ok (.aaload, 1)) (ha : μ a = some (.inl (cA, n, .inr (.inr (.inr (.inr f)))))) (ht : (jw_tys o.2.2.1)[i]? = some (cA, .object C)) (hin : vp_in x n) (hv : va_rf (f x.toNatClampNeg) = v) (hp : pc + 1 = pc') (kk : jw_X mi o k kc ks pc' lc (v :: rest) μ hs) : jw_X mi o k kc ks pc lc (.int x :: .ref a :: rest) μ hs := by
  subst hp; subst hv
  exact fun C0 H locs ls e1 e2 e3 e4 => va_aldq C0.1 C0.2.1 C0.hK (jw_one e2 ha) 0 i rfl ht hin hd (kk C0 H locs ls e1 e2 e3 e4)
theorem jw_iast {a i : Nat} {cA : ClassId} {n : Nat} {f : Nat → Int32} {x y : Int32} (hd : decode mi.2.1 pc = .ok (.iastore, 1)) (ha : μ a = some (.inl (cA, n, .inl f))) (ht : (jw_tys o.2.2.1)[i]? = some (cA, .int)) (hin : vp_in x n) (hp : pc + 1 = pc') (kk : ∀ μ' : jw_Mem, μ' a = some (.inl (cA, n, .inl (upd f x.toNatClampNeg y))) → (∀ q, q ≠ a → μ' q = μ q) → jw_X mi o k kc ks pc' lc rest μ' hs) : jw_X mi o k kc ks pc lc (.int y :: .int x :: .ref a :: rest) μ hs := by
  subst hp
  intro C0 H locs ls e1 e2 e3 e4
  refine W.iast C0.1 C0.2.1 (e2 a _ ha).2 ((C0.hK.2 i _ ht).1 n (fun j => .int (f j))) (fun q => by cases q) (by show ¬ (x < 0 ∨ (arrV _ _ _).slots.size ≤ _); rw [arrV_size]; exact hin) rfl rfl hd fun H1 g z oq => ?_
  refine kk _ (va_up_self _ _ _) (fun q hq => va_up_ne _ _ hq) C0 H1 _ ls (z.trans e1) (e2.put ha ?_ oq) (e3.put z oq (e2 a _ ha).1) e4
  show H1[a]? = some (vp_cell _ _)
  rw [g]
  rw [vp_cell_i, vp_cell_i, arrV_store]
  congr 2
  funext q
  by_cases hq : q = x.toNatClampNeg
  · subst hq
    simp [updV, upd]
  · simp [updV, upd, hq]
theorem jw_zast {a i : Nat} {cA : ClassId} {n : Nat} {f : Nat → Int32} {x y : Int32} (hd : decode mi.2.1 pc = .ok (.bastore, 1)) (ha : μ a = some (.inl (cA, n, .inl f))) (ht : (jw_tys o.2.2.1)[i]? = some (cA, .boolean)) (hin : vp_in x n) (hp : pc + 1 = pc') (kk : ∀ μ' : jw_Mem, μ' a = some (.inl (cA, n, .inl (upd f x.toNatClampNeg (vp_nar .boolean y)))) → (∀ q, q ≠ a → μ' q = μ q) → jw_X mi o k kc ks pc' lc rest μ' hs) : jw_X mi o k kc ks pc lc (.int y :: .int x :: .ref a :: rest) μ hs := by
  subst hp
  intro C0 H locs ls e1 e2 e3 e4
  refine W.zast C0.1 C0.2.1 (e2 a _ ha).2 ((C0.hK.2 i _ ht).1 n (fun j => .int (f j))) (fun q => by cases q) (by show ¬ (x < 0 ∨ (arrV _ _ _).slots.size ≤ _); rw [arrV_size]; exact hin) rfl rfl hd fun H1 g z oq => ?_
  refine kk _ (va_up_self _ _ _) (fun q hq => va_up_ne _ _ hq) C0 H1 _ ls (z.trans e1) (e2.put ha ?_ oq) (e3.put z oq (e2 a _ ha).1) e4
  show H1[a]? = some (vp_cell _ _)
  rw [g]
  rw [vp_cell_i, vp_cell_i, arrV_store]
  congr 2
  funext q
  by_cases hq : q = x.toNatClampNeg
  · subst hq
    simp [updV, upd, vp_nar]
    try rfl
  · simp [updV, upd, hq]
theorem jw_last {a i : Nat} {cA : ClassId} {n : Nat} {f : Nat → Int64} {x : Int32} {y : Int64} (hd : decode mi.2.1 pc = .ok (.lastore, 1)) (ha : μ a = some (.inl (cA, n, .inr (.inl f)))) (ht : (jw_tys o.2.2.1)[i]? = some (cA, .long)) (hin : vp_in x n) (hp : pc + 1 = pc') (kk : ∀ μ' : jw_Mem, μ' a = some (.inl (cA, n, .inr (.inl (vp_updL f x.toNatClampNeg y)))) → (∀ q, q ≠ a → μ' q = μ q) → jw_X mi o k kc ks pc' lc rest μ' hs) : jw_X mi o k kc ks pc lc (.long y :: .int x :: .ref a :: rest) μ hs := by
  subst hp
  intro C0 H locs ls e1 e2 e3 e4
  refine W.last C0.1 C0.2.1 (e2 a _ ha).2 ((C0.hK.2 i _ ht).1 n (fun j => .long (f j))) (fun q => by cases q) (by show ¬ (x < 0 ∨ (arrV _ _ _).slots.size ≤ _); rw [arrV_size]; exact hin) rfl rfl hd fun H1 g z oq => ?_
  refine kk _ (va_up_self _ _ _) (fun q hq => va_up_ne _ _ hq) C0 H1 _ ls (z.trans e1) (e2.put ha ?_ oq) (e3.put z oq (e2 a _ ha).1) e4
  show H1[a]? = some (vp_cell _ _)
  rw [g]
  rw [vp_cell_l, vp_cell_l, arrV_store]
  congr 2
  funext q
  by_cases hq : q = x.toNatClampNeg
  · subst hq
    simp [updV, vp_updL]
  · simp [updV, vp_updL, hq]
theorem jw_aast {a i b ci : Nat} {cA : ClassId} {r : vw_C} {n : Nat} {f : Nat → Option Nat} {fs : List Value} {x : Int32} (hd : decode mi.2.1 pc = .ok (.aastore, 1)) (ha : μ a = some (.inl (cA, n, .inr (.inr (.inr (.inr f)))))) (ht : (jw_tys o.2.2.1)[i]? = some (cA, .object r.1)) (hb : μ b = some (.inr (ci, fs))) (hc : jw_cl[ci]? = some r) (hin : vp_in x n) (hp : pc + 1 = pc') (kk : ∀ μ' : jw_Mem, μ' a = some (.inl (cA, n, .inr (.inr (.inr (.inr (va_up f x.toNatClampNeg (some b))))))) → (∀ q, q ≠ a → μ' q = μ q) → jw_X mi o k kc ks pc' lc rest μ' hs) : jw_X mi o k kc ks pc lc (.ref b :: .int x :: .ref a :: rest) μ hs := by
  subst hp
  intro C0 H locs ls e1 e2 e3 e4
  have hlt : x.toNatClampNeg < n := Nat.not_le.mp fun q => hin (Or.inr q)
  have h0 : ¬ x < 0 := fun q => hin (Or.inl q)
  obtain ⟨r', hr', cellV, g1, g2, g3, -⟩ := (e2 b _ hb).2
  have hcls := (C0.hK.1 ci r hc).2
  obtain ⟨kA, comp, k1, k2, k3, -⟩ := (C0.hK.2 i _ ht).2
  have hcomp : comp = o.2.1.1 ci := Option.some.inj (k3.symm.trans hcls.1)
  subst hcomp
  obtain ⟨kC, hkC, -⟩ := hcls.2
  refine W.aast C0.1 C0.2.1 (e2 a _ ha).2 (fun q h => by cases h) (fun h => by cases h) k1 k2 rfl hkC ⟨h0, by show _ < (arrV _ _ _).slots.size; rw [arrV_size]; exact hlt⟩ g1 (fun q h => by rw [g3] at h; cases h) (by rw [g2]; exact hkC) (by rw [g2]; exact va_assign hcls) rfl rfl hd fun H1 g z oq => ?_
  refine kk _ (va_up_self _ _ _) (fun q hq => va_up_ne _ _ hq) C0 H1 _ ls (z.trans e1) (e2.put ha ?_ oq) (e3.put z oq (e2 a _ ha).1) e4
  show H1[a]? = some (vp_cell _ _)
  rw [g]
  rw [vp_cell_q, vp_cell_q, arrV_store]
  congr 2
  funext q
  by_cases hq : q = x.toNatClampNeg
  · subst hq
    simp [updV, va_up, va_rf]
  · simp [updV, va_up, hq]
theorem jw_good {ws : List Cond} (h : ∀ w ∈ ws, w ∈ jw_T) : GoodIn jw_T ws := fun w hw => ⟨h w hw, good_of_word (List.mem_filter.mp (h w hw)).2⟩
theorem jw_S.same {s U : State} (h : s.vm = U.vm) (hS : jw_S s) : jw_S U := ⟨fun q hq => va_tabs rfl h (hS.1 q hq), fun C hC => va_AO.moved (by rw [h]; exact Vm.Alike.refl _) (hS.2 C hC)⟩
theorem jw_B.blind {As : List Value} : FrameBlind (va_Pc As (jw_B o μ hs)) := fun a U g mk q => by
  obtain ⟨q0, q1, q2, q3, q4, q5, q6⟩ := q
  exact ⟨q0, q1, q2, va_K.moved (u := U) (U := U.calling g mk a) (Vm.Alike.refl U.vm) q3, jw_S.same (s := U) (U := U.calling g mk a) rfl q4, q5, jw_xB.same (u := U) (U := U.calling g mk a) rfl q6⟩
theorem jw_B.of {As : List Value} {H : Heap} {locs : List Loc} (C0 : jw_Cx mi o k) (e1 : H.size = hs) (e2 : jw_H o μ H) (e3 : va_S (fun q => o.2.2.2.1 ≤ q) k.2.2.2.1.heap H locs) : ∀ U : State, U.heap = H → k.2.2.2.1.WarmedH U.vm → va_Pc As (jw_B o μ hs) As.toArray U := fun U hU hW => ⟨rfl, by rw [hU]; exact e1, by rw [hU]; exact e2, va_K.moved hW.alike C0.hK, C0.S.moved hW, by rw [← e1]; exact Nat.le_trans C0.lo e3.1, by rw [hU]; exact (C0.xB.kept e3.2.1).warm hW⟩
theorem jw_back {H : Heap} {locs : List Loc} {ls : Array Slot} {mc' ms' : Nat} {a : Array Value} {Φ : Option Value → jw_Mem → Nat → Prop}
    (hr : va_Run k.1 o.1 k.2.1 k.2.2.1 k.2.2.2.1 k.2.2.2.2.1 k.2.2.2.2.2.1 k.2.2.2.2.2.2.1 k.2.2.2.2.2.2.2.1 k.2.2.2.2.2.2.2.2.1 H locs kc ks mc' ms' (F0 k.2.2.2.2.1 pc ls st) rest (jw_Q o Φ a) (fun q => o.2.2.2.1 ≤ q))
    (e3 : va_S (fun q => o.2.2.2.1 ≤ q) k.2.2.2.1.heap H locs)
    (kk : ∀ (v : Option Value) (μ' : jw_Mem) (H1 : Heap) (locs1 : List Loc), jw_H o μ' H1 → Φ v μ' H1.size → H.size ≤ H1.size → va_S (fun q => o.2.2.2.1 ≤ q) k.2.2.2.1.heap H1 locs1 → jw_W o k H1 locs1 (kc + mc') (ks + ms') (pc + 3) ls (v.toList ++ rest)) : jw_W o k H locs kc ks pc ls st := by
  intro T hT X
  obtain ⟨v, st₀, t, T', L, h0, X', hL, e1, e2, ⟨⟨v', μ', hv, hH, hΦ⟩, hz, hk⟩, sts⟩ := hr T hT X
  cases hv
  rw [h0] at hz hk
  obtain ⟨t2, a1, b1⟩ := kk v μ' T'.heap (locs ++ L) (by rw [e1]; exact hH) (by rw [e1]; exact hΦ) (by rw [e1]; exact hz)
    ⟨Nat.le_trans e3.1 (by rw [e1]; exact hz), fun q h1 h2 => by rw [e1, hk q (Nat.lt_of_lt_of_le h1 e3.1) h2]; exact e3.2.1 q h1 h2, fun q hq => by
      rcases List.mem_append.mp hq with h | h
      · exact e3.2.2 q h
      · exact hL q h⟩ T' rfl X'
  exact ⟨t2, sts t2 a1, b1⟩
def jw_pl (y : MethodName) (n : Nat) : Prop := y.cls ≠ "java/lang/invoke/MethodHandle" ∧ y.cls ≠ "java/lang/invoke/VarHandle" ∧ (parseMethodDescriptor y.desc).map (fun d => d.parameters.length) = some n
/-- what the tables say of a method that is called: an instance's, a static one, a constructor -/
def jw_mV (mi : jw_M) (n : Nat) : Prop := Cond.instanceMethod mi.1 ∈ jw_T ∧ Cond.selects mi.1.cls mi.1 mi.1 ∈ jw_T ∧ Cond.initialized mi.1.cls ∈ jw_T ∧ Cond.code mi.1 mi.2.1 mi.2.2.1 mi.2.2.2 ∈ jw_T ∧ jw_pl mi.1 n
def jw_mS (mi : jw_M) (n : Nat) : Prop := Cond.static mi.1 ∈ jw_T ∧ Cond.initialized mi.1.cls ∈ jw_T ∧ Cond.code mi.1 mi.2.1 mi.2.2.1 mi.2.2.2 ∈ jw_T ∧ jw_pl mi.1 n
def jw_mI (mi : jw_M) (n : Nat) : Prop := Cond.instanceMethod mi.1 ∈ jw_T ∧ Cond.initialized mi.1.cls ∈ jw_T ∧ Cond.code mi.1 mi.2.1 mi.2.2.1 mi.2.2.2 ∈ jw_T ∧ mi.1.name = "<init>" ∧ mi.2.2.2 = none ∧ jw_pl mi.1 n
theorem jw_room {d d' mc ms mc' ms' mx : Nat} (hR : jw_Rm k d mc ms) (hdd : d' + 1 ≤ d) (hml : mx ≤ 21) : (jw_rm d' mc' ms').frames + 1 ≤ k.2.2.1.frames ∧ 8 + (mx + 11) + (jw_rm d' mc' ms').locals ≤ k.2.2.1.locals := by
  obtain ⟨h1, h2, -, -⟩ := hR
  exact ⟨Nat.le_trans hdd h1, by show 8 + (mx + 11) + 40 * d' ≤ _; omega⟩
theorem jw_callV {mj : jw_M} {d d' mc ms mc' ms' a ci n idx : Nat} {As : List Value} {fs : List Value} {T : u_T} {N : Nat} {Φ : Option Value → jw_Mem → Nat → Prop} (hR : jw_Rm k d mc ms) (hS : jw_Spec mj d' mc' ms' o (.ref a :: As) μ hs Φ) (hm : jw_mV mj n) (hw : Cond.methodLink mi.1.cls idx mj.1 ∈ jw_T) (hc : jw_cl[ci]? = some (mj.1.cls, T, N)) (hd : decode mi.2.1 pc = .ok (.invokevirtual idx, 3)) (ha : μ a = some (.inr (ci, fs))) (hn : As.length = n) (hst : As.reverse ++ .ref a :: rest = st) (hrs : (rest.map fun v => v.category).sum ≤ 8) (hdd : d' + 1 ≤ d) (hml : mj.2.2.1 ≤ 21) (h1 : kc + mc' ≤ mc) (h2 : ks + ms' ≤ ms) (hp : pc + 3 = pc') (kk : ∀ (v : Option Value) (μ' : jw_Mem) (hs' : Nat), Φ v μ' hs' → hs ≤ hs' → jw_X mi o k (kc + mc') (ks + ms') pc' lc (v.toList ++ rest) μ' hs') : jw_X mi o k kc ks pc lc st μ hs := by
  subst hp; subst hst
  intro C0 H locs ls e1 e2 e3 e4
  obtain ⟨m1, m2, m3, m4, m5⟩ := hm
  refine jw_back (va_runV (As := As) (rest := rest) (b := a) ⟨C0.1, C0.2.1, C0.2.2.2.1, C0.own, C0.ts⟩ hS (cwV (ws' := jw_T) n C0.ts (jw_good fun w hw9 => ?_) rfl rfl rfl ⟨rfl, m5⟩ (jw_room hR hdd hml)) ⟨jw_B.blind, va_recv C0.hK (jw_one e2 ha) (ci := ci) (q0 := 0) hc rfl, jw_B.of C0 e1 e2 e3⟩ rfl hn e4.1 rfl (lv_room hrs) hd ⟨Nat.le_trans h1 hR.2.2.1, Nat.le_trans h2 hR.2.2.2⟩) e3 (fun v μ' H1 locs1 q1 q2 q3 q4 => kk v μ' H1.size q2 (by rw [← e1]; exact q3) C0 H1 locs1 ls rfl q1 q4 e4)
  rcases List.mem_append.mp hw9 with h | h
  · simp only [List.mem_cons, List.not_mem_nil, or_false] at h
    rcases h with rfl | rfl | rfl | rfl
    · exact hw
    · exact m1
    · exact m2
    · exact m3
  · rcases List.mem_cons.mp h with rfl | h
    · exact m4
    · exact h
theorem jw_callS {mj : jw_M} {d d' mc ms mc' ms' n idx : Nat} {As : List Value} {Φ : Option Value → jw_Mem → Nat → Prop} (hR : jw_Rm k d mc ms) (hS : jw_Spec mj d' mc' ms' o As μ hs Φ) (hm : jw_mS mj n) (hw : Cond.methodLink mi.1.cls idx mj.1 ∈ jw_T) (hd : decode mi.2.1 pc = .ok (.invokestatic idx, 3)) (hn : As.length = n) (hst : As.reverse ++ rest = st) (hrs : (rest.map fun v => v.category).sum ≤ 8) (hdd : d' + 1 ≤ d) (hml : mj.2.2.1 ≤ 21) (h1 : kc + mc' ≤ mc) (h2 : ks + ms' ≤ ms) (hp : pc + 3 = pc') (kk : ∀ (v : Option Value) (μ' : jw_Mem) (hs' : Nat), Φ v μ' hs' → hs ≤ hs' → jw_X mi o k (kc + mc') (ks + ms') pc' lc (v.toList ++ rest) μ' hs') : jw_X mi o k kc ks pc lc st μ hs := by
  subst hp; subst hst
  intro C0 H locs ls e1 e2 e3 e4
  obtain ⟨m1, m2, m3, m4⟩ := hm
  refine jw_back (va_runS (As := As) (rest := rest) ⟨C0.1, C0.2.1, C0.2.2.2.1, C0.own, C0.ts⟩ hS ⟨callB_of (ws' := jw_T) n C0.ts (jw_good fun w hw9 => ?_) rfl rfl rfl (C0.ts _ m2) (C0.ts _ hw) m4 (jw_room hR hdd hml), C0.ts _ m1⟩ ⟨jw_B.blind, jw_B.of C0 e1 e2 e3⟩ rfl hn e4.1 rfl (lv_room hrs) hd ⟨Nat.le_trans h1 hR.2.2.1, Nat.le_trans h2 hR.2.2.2⟩) e3 (fun v μ' H1 locs1 q1 q2 q3 q4 => kk v μ' H1.size q2 (by rw [← e1]; exact q3) C0 H1 locs1 ls rfl q1 q4 e4)
  rcases List.mem_cons.mp hw9 with rfl | h
  · exact m3
  · exact h
theorem jw_callI {mj : jw_M} {d d' mc ms mc' ms' a n idx : Nat} {As : List Value} {Φ : Option Value → jw_Mem → Nat → Prop} (hR : jw_Rm k d mc ms) (hS : jw_Spec mj d' mc' ms' o (.ref a :: As) μ hs Φ) (hm : jw_mI mj n) (hw : Cond.methodLink mi.1.cls idx mj.1 ∈ jw_T) (hd : decode mi.2.1 pc = .ok (.invokespecial idx, 3)) (hn : As.length = n) (hst : As.reverse ++ .ref a :: rest = st) (hrs : (rest.map fun v => v.category).sum ≤ 8) (hdd : d' + 1 ≤ d) (hml : mj.2.2.1 ≤ 21) (h1 : kc + mc' ≤ mc) (h2 : ks + ms' ≤ ms) (hp : pc + 3 = pc') (kk : ∀ (v : Option Value) (μ' : jw_Mem) (hs' : Nat), Φ v μ' hs' → hs ≤ hs' → jw_X mi o k (kc + mc') (ks + ms') pc' lc (v.toList ++ rest) μ' hs') : jw_X mi o k kc ks pc lc st μ hs := by
  subst hp; subst hst
  intro C0 H locs ls e1 e2 e3 e4
  obtain ⟨m1, m2, m3, m4, m5, m6⟩ := hm
  refine jw_back (va_runI (As := As) (rest := rest) (b := a) ⟨C0.1, C0.2.1, C0.2.2.2.1, C0.own, C0.ts⟩ hS (cwI (ws' := jw_T) n C0.ts (jw_good fun w hw9 => ?_) (by unfold jw_ws; rw [m5]) rfl rfl (C0.ts _ m2) (C0.ts _ hw) (C0.ts _ m1) m4 m6 (jw_room hR hdd hml)) ⟨jw_B.blind, jw_B.of C0 e1 e2 e3⟩ rfl hn e4.1 rfl (lv_room hrs) hd ⟨Nat.le_trans h1 hR.2.2.1, Nat.le_trans h2 hR.2.2.2⟩) e3 (fun v μ' H1 locs1 q1 q2 q3 q4 => kk v μ' H1.size q2 (by rw [← e1]; exact q3) C0 H1 locs1 ls rfl q1 q4 e4)
  rcases List.mem_cons.mp hw9 with rfl | h
  · exact m3
  · exact h
theorem jw_callIN {mj : jw_M} {d d' mc ms mc' ms' a n idx : Nat} {host : String} {As : List Value} {Φ : Option Value → jw_Mem → Nat → Prop} (hR : jw_Rm k d mc ms) (hS : jw_Spec mj d' mc' ms' o (.ref a :: As) μ hs Φ) (hm : jw_mI mj n) (hw : (mi.1.cls, idx, mj.1, host) ∈ jw_nest) (hd : decode mi.2.1 pc = .ok (.invokespecial idx, 3)) (hn : As.length = n) (hst : As.reverse ++ .ref a :: rest = st) (hrs : (rest.map fun v => v.category).sum ≤ 8) (hdd : d' + 1 ≤ d) (hml : mj.2.2.1 ≤ 21) (h1 : kc + mc' ≤ mc) (h2 : ks + ms' ≤ ms) (hp : pc + 3 = pc') (kk : ∀ (v : Option Value) (μ' : jw_Mem) (hs' : Nat), Φ v μ' hs' → hs ≤ hs' → jw_X mi o k (kc + mc') (ks + ms') pc' lc (v.toList ++ rest) μ' hs') : jw_X mi o k kc ks pc lc st μ hs := by
  subst hp; subst hst
  intro C0 H locs ls e1 e2 e3 e4
  obtain ⟨m1, m2, m3, m4, m5, m6⟩ := hm
  refine jw_back (va_runIN (As := As) (rest := rest) (b := a) ⟨C0.1, C0.2.1, C0.2.2.2.1, C0.own, C0.ts⟩ hS ⟨va_cnB (ws' := jw_T) (ret := none) n C0.ts (jw_good fun w hw9 => ?_) (by unfold jw_ws; rw [m5]) rfl rfl (C0.S.1 _ hw) (C0.ts _ m2) m6 (jw_room hR hdd hml), m4, C0.ts _ m1⟩ ⟨jw_B.blind, jw_B.of C0 e1 e2 e3⟩ rfl hn e4.1 rfl (lv_room hrs) hd ⟨Nat.le_trans h1 hR.2.2.1, Nat.le_trans h2 hR.2.2.2⟩) e3 (fun v μ' H1 locs1 q1 q2 q3 q4 => kk v μ' H1.size q2 (by rw [← e1]; exact q3) C0 H1 locs1 ls rfl q1 q4 e4)
  rcases List.mem_cons.mp hw9 with rfl | h
  · exact m3
  · exact h
theorem jw_callSN {mj : jw_M} {d d' mc ms mc' ms' n idx : Nat} {host : String} {As : List Value} {Φ : Option Value → jw_Mem → Nat → Prop} (hR : jw_Rm k d mc ms) (hS : jw_Spec mj d' mc' ms' o As μ hs Φ) (hm : jw_mS mj n) (hw : (mi.1.cls, idx, mj.1, host) ∈ jw_nest) (hd : decode mi.2.1 pc = .ok (.invokestatic idx, 3)) (hn : As.length = n) (hst : As.reverse ++ rest = st) (hrs : (rest.map fun v => v.category).sum ≤ 8) (hdd : d' + 1 ≤ d) (hml : mj.2.2.1 ≤ 21) (h1 : kc + mc' ≤ mc) (h2 : ks + ms' ≤ ms) (hp : pc + 3 = pc') (kk : ∀ (v : Option Value) (μ' : jw_Mem) (hs' : Nat), Φ v μ' hs' → hs ≤ hs' → jw_X mi o k (kc + mc') (ks + ms') pc' lc (v.toList ++ rest) μ' hs') : jw_X mi o k kc ks pc lc st μ hs := by
  subst hp; subst hst
  intro C0 H locs ls e1 e2 e3 e4
  obtain ⟨m1, m2, m3, m4⟩ := hm
  refine jw_back (va_runSN (As := As) (rest := rest) ⟨C0.1, C0.2.1, C0.2.2.2.1, C0.own, C0.ts⟩ hS ⟨va_cnB (ws' := jw_T) n C0.ts (jw_good fun w hw9 => ?_) rfl rfl rfl (C0.S.1 _ hw) (C0.ts _ m2) m4 (jw_room hR hdd hml), C0.ts _ m1, trivial⟩ ⟨jw_B.blind, jw_B.of C0 e1 e2 e3⟩ rfl hn e4.1 rfl (lv_room hrs) hd ⟨Nat.le_trans h1 hR.2.2.1, Nat.le_trans h2 hR.2.2.2⟩) e3 (fun v μ' H1 locs1 q1 q2 q3 q4 => kk v μ' H1.size q2 (by rw [← e1]; exact q3) C0 H1 locs1 ls rfl q1 q4 e4)
  rcases List.mem_cons.mp hw9 with rfl | h
  · exact m3
  · exact h
theorem jw_objInit {d mc ms a idx : Nat} (hR : jw_Rm k d mc ms) (hw : Cond.methodLink mi.1.cls idx objectInit ∈ jw_T) (hd : decode mi.2.1 pc = .ok (.invokespecial idx, 3)) (hrs : (rest.map fun v => v.category).sum ≤ 8) (hdd : 1 ≤ d) (hp : pc + 3 = pc') (kk : jw_X mi o k kc ks pc' lc rest μ hs) : jw_X mi o k kc ks pc lc (.ref a :: rest) μ hs := by
  subst hp
  intro C0 H locs ls e1 e2 e3 e4
  obtain ⟨r1, r2, -, -⟩ := hR
  exact W.objInit C0.1 C0.2.1 C0.own (C0.ts _ hw) (C0.ts _ jw_oi1) (C0.ts _ jw_oi2) rfl (by rw [C0.2.2.2.1]; exact e4.1) rfl hd (Nat.le_trans hdd r1) (by have := lv_room (m := k.2.2.2.2.1) (pc := pc) (ls := ls) (rest := .ref a :: rest) hrs; omega) (W.eq (g2 := F0 k.2.2.2.2.1 (pc + 3) ls rest) rfl (kk C0 H locs ls e1 e2 e3 e4))
-- ends
theorem jw_zret {mc ms : Nat} {Φ : Option Value → jw_Mem → Nat → Prop} {v : Int32} {ty : FieldType} (hE : jw_E o k mc ms Φ) (hd : decode mi.2.1 pc = .ok (.ireturn, 1)) (hr : mi.2.2.2 = some ty) (hn : narrow ty (.int v) = .int v) (h1 : kc ≤ mc) (h2 : ks ≤ ms) (h : Φ (some (.int v)) μ hs) : jw_X mi o k kc ks pc lc [.int v] μ hs := by
  intro C0 H locs ls e1 e2 e3 e4
  refine W.widen h1 h2 (hE _ _ _ ?_)
  exact W.zret C0.1 C0.2.1 (C0.2.2.1.trans hr) hn (fun t ht hW => ⟨⟨_, μ, rfl, by rw [ht]; exact e2, by rw [ht, e1]; exact h⟩, e3.F ht⟩) e3.2.2 hd C0.2.2.2.2.2.2.1
theorem jw_iret {mc ms : Nat} {Φ : Option Value → jw_Mem → Nat → Prop} {v : Int32} (hE : jw_E o k mc ms Φ) (hd : decode mi.2.1 pc = .ok (.ireturn, 1)) (hr : mi.2.2.2 = some .int) (h1 : kc ≤ mc) (h2 : ks ≤ ms) (h : Φ (some (.int v)) μ hs) : jw_X mi o k kc ks pc lc [.int v] μ hs := jw_zret hE hd hr (vp_nar_int v) h1 h2 h
theorem jw_lret {mc ms : Nat} {Φ : Option Value → jw_Mem → Nat → Prop} {v : Int64} (hE : jw_E o k mc ms Φ) (hd : decode mi.2.1 pc = .ok (.lreturn, 1)) (hr : mi.2.2.2 = some .long) (h1 : kc ≤ mc) (h2 : ks ≤ ms) (h : Φ (some (.long v)) μ hs) : jw_X mi o k kc ks pc lc [.long v] μ hs := by
  intro C0 H locs ls e1 e2 e3 e4
  refine W.widen h1 h2 (hE _ _ _ ?_)
  exact W.lret C0.1 C0.2.1 (C0.2.2.1.trans hr) (fun t ht hW => ⟨⟨_, μ, rfl, by rw [ht]; exact e2, by rw [ht, e1]; exact h⟩, e3.F ht⟩) e3.2.2 hd C0.2.2.2.2.2.2.1
theorem jw_dret {mc ms : Nat} {Φ : Option Value → jw_Mem → Nat → Prop} {v : UInt64} (hE : jw_E o k mc ms Φ) (hd : decode mi.2.1 pc = .ok (.dreturn, 1)) (hr : mi.2.2.2 = some .double) (h1 : kc ≤ mc) (h2 : ks ≤ ms) (h : Φ (some (.double v)) μ hs) : jw_X mi o k kc ks pc lc [.double v] μ hs := by
  intro C0 H locs ls e1 e2 e3 e4
  refine W.widen h1 h2 (hE _ _ _ ?_)
  exact W.dret C0.1 C0.2.1 (C0.2.2.1.trans hr) (fun t ht hW => ⟨⟨_, μ, rfl, by rw [ht]; exact e2, by rw [ht, e1]; exact h⟩, e3.F ht⟩) e3.2.2 hd C0.2.2.2.2.2.2.1
theorem jw_vret {mc ms : Nat} {Φ : Option Value → jw_Mem → Nat → Prop} (hE : jw_E o k mc ms Φ) (hd : decode mi.2.1 pc = .ok (.return_, 1)) (hr : mi.2.2.2 = none) (h1 : kc ≤ mc) (h2 : ks ≤ ms) (h : Φ none μ hs) : jw_X mi o k kc ks pc lc [] μ hs := by
  intro C0 H locs ls e1 e2 e3 e4
  refine W.widen h1 h2 (hE _ _ _ ?_)
  exact W.vret C0.1 C0.2.1 (C0.2.2.1.trans hr) (fun t ht hW => ⟨⟨_, μ, rfl, by rw [ht]; exact e2, by rw [ht, e1]; exact h⟩, e3.F ht⟩) e3.2.2 hd C0.2.2.2.2.2.2.1
theorem jw_aret {mc ms : Nat} {Φ : Option Value → jw_Mem → Nat → Prop} {v : Value} {rt : FieldType} (hE : jw_E o k mc ms Φ) (hd : decode mi.2.1 pc = .ok (.areturn, 1)) (hr : mi.2.2.2 = some rt) (hrt : (∃ n, rt = .object n) ∨ ∃ t, rt = .array t) (hv : v = .null ∨ ∃ a, v = .ref a) (h1 : kc ≤ mc) (h2 : ks ≤ ms) (h : Φ (some v) μ hs) : jw_X mi o k kc ks pc lc [v] μ hs := by
  intro C0 H locs ls e1 e2 e3 e4
  refine W.widen h1 h2 (hE _ _ _ ?_)
  exact W.aret C0.1 C0.2.1 (C0.2.2.1.trans hr) hrt hv (fun t ht hW => ⟨⟨_, μ, rfl, by rw [ht]; exact e2, by rw [ht, e1]; exact h⟩, e3.F ht⟩) e3.2.2 hd C0.2.2.2.2.2.2.1
def jw_Ro (mi : jw_M) (d : Nat) (o : jw_O) (As : List Value) (μ : jw_Mem) (hs : Nat) (v : Option Value) : Prop := jw_Spec mi d 0 0 o As μ hs (fun v' μ' s' => v' = v ∧ μ' = μ ∧ s' = hs)
theorem jw_callV0 {mj : jw_M} {d d' mc ms a ci n idx : Nat} {As : List Value} {fs : List Value} {T : u_T} {N : Nat} {v : Option Value} {st' : List Value} (hR : jw_Rm k d mc ms) (hS : jw_Ro mj d' o (.ref a :: As) μ hs v) (hm : jw_mV mj n) (hw : Cond.methodLink mi.1.cls idx mj.1 ∈ jw_T) (hc : jw_cl[ci]? = some (mj.1.cls, T, N)) (hd : decode mi.2.1 pc = .ok (.invokevirtual idx, 3)) (ha : μ a = some (.inr (ci, fs))) (hn : As.length = n) (hst : As.reverse ++ .ref a :: rest = st) (hrs : (rest.map fun v => v.category).sum ≤ 8) (hdd : d' + 1 ≤ d) (hml : mj.2.2.1 ≤ 21) (h1 : kc ≤ mc) (h2 : ks ≤ ms) (hp : pc + 3 = pc') (hv : v.toList ++ rest = st') (kk : jw_X mi o k kc ks pc' lc st' μ hs) : jw_X mi o k kc ks pc lc st μ hs :=
  jw_callV hR hS hm hw hc hd ha hn hst hrs hdd hml h1 h2 hp (fun v1 μ1 s1 q _ => by obtain ⟨rfl, rfl, rfl⟩ := q; rw [hv]; exact kk)
theorem jw_callS0 {mj : jw_M} {d d' mc ms n idx : Nat} {As : List Value} {v : Option Value} {st' : List Value} (hR : jw_Rm k d mc ms) (hS : jw_Ro mj d' o As μ hs v) (hm : jw_mS mj n) (hw : Cond.methodLink mi.1.cls idx mj.1 ∈ jw_T) (hd : decode mi.2.1 pc = .ok (.invokestatic idx, 3)) (hn : As.length = n) (hst : As.reverse ++ rest = st) (hrs : (rest.map fun v => v.category).sum ≤ 8) (hdd : d' + 1 ≤ d) (hml : mj.2.2.1 ≤ 21) (h1 : kc ≤ mc) (h2 : ks ≤ ms) (hp : pc + 3 = pc') (hv : v.toList ++ rest = st') (kk : jw_X mi o k kc ks pc' lc st' μ hs) : jw_X mi o k kc ks pc lc st μ hs :=
  jw_callS hR hS hm hw hd hn hst hrs hdd hml h1 h2 hp (fun v1 μ1 s1 q _ => by obtain ⟨rfl, rfl, rfl⟩ := q; rw [hv]; exact kk)
theorem jw_callI0 {mj : jw_M} {d d' mc ms a n idx : Nat} {As : List Value} {v : Option Value} {st' : List Value} (hR : jw_Rm k d mc ms) (hS : jw_Ro mj d' o (.ref a :: As) μ hs v) (hm : jw_mI mj n) (hw : Cond.methodLink mi.1.cls idx mj.1 ∈ jw_T) (hd : decode mi.2.1 pc = .ok (.invokespecial idx, 3)) (hn : As.length = n) (hst : As.reverse ++ .ref a :: rest = st) (hrs : (rest.map fun v => v.category).sum ≤ 8) (hdd : d' + 1 ≤ d) (hml : mj.2.2.1 ≤ 21) (h1 : kc ≤ mc) (h2 : ks ≤ ms) (hp : pc + 3 = pc') (hv : v.toList ++ rest = st') (kk : jw_X mi o k kc ks pc' lc st' μ hs) : jw_X mi o k kc ks pc lc st μ hs :=
  jw_callI hR hS hm hw hd hn hst hrs hdd hml h1 h2 hp (fun v1 μ1 s1 q _ => by obtain ⟨rfl, rfl, rfl⟩ := q; rw [hv]; exact kk)
theorem jw_callIN0 {mj : jw_M} {d d' mc ms a n idx : Nat} {host : String} {As : List Value} {v : Option Value} {st' : List Value} (hR : jw_Rm k d mc ms) (hS : jw_Ro mj d' o (.ref a :: As) μ hs v) (hm : jw_mI mj n) (hw : (mi.1.cls, idx, mj.1, host) ∈ jw_nest) (hd : decode mi.2.1 pc = .ok (.invokespecial idx, 3)) (hn : As.length = n) (hst : As.reverse ++ .ref a :: rest = st) (hrs : (rest.map fun v => v.category).sum ≤ 8) (hdd : d' + 1 ≤ d) (hml : mj.2.2.1 ≤ 21) (h1 : kc ≤ mc) (h2 : ks ≤ ms) (hp : pc + 3 = pc') (hv : v.toList ++ rest = st') (kk : jw_X mi o k kc ks pc' lc st' μ hs) : jw_X mi o k kc ks pc lc st μ hs :=
  jw_callIN hR hS hm hw hd hn hst hrs hdd hml h1 h2 hp (fun v1 μ1 s1 q _ => by obtain ⟨rfl, rfl, rfl⟩ := q; rw [hv]; exact kk)
theorem jw_callSN0 {mj : jw_M} {d d' mc ms n idx : Nat} {host : String} {As : List Value} {v : Option Value} {st' : List Value} (hR : jw_Rm k d mc ms) (hS : jw_Ro mj d' o As μ hs v) (hm : jw_mS mj n) (hw : (mi.1.cls, idx, mj.1, host) ∈ jw_nest) (hd : decode mi.2.1 pc = .ok (.invokestatic idx, 3)) (hn : As.length = n) (hst : As.reverse ++ rest = st) (hrs : (rest.map fun v => v.category).sum ≤ 8) (hdd : d' + 1 ≤ d) (hml : mj.2.2.1 ≤ 21) (h1 : kc ≤ mc) (h2 : ks ≤ ms) (hp : pc + 3 = pc') (hv : v.toList ++ rest = st') (kk : jw_X mi o k kc ks pc' lc st' μ hs) : jw_X mi o k kc ks pc lc st μ hs :=
  jw_callSN hR hS hm hw hd hn hst hrs hdd hml h1 h2 hp (fun v1 μ1 s1 q _ => by obtain ⟨rfl, rfl, rfl⟩ := q; rw [hv]; exact kk)
end Rules
/-- a contract out of the walk of the method's body -/
theorem jw_spec {mi : jw_M} {o : jw_O} {d mc ms hs : Nat} {As : List Value} {μ : jw_Mem} {Φ : Option Value → jw_Mem → Nat → Prop} {lc : List (Nat × Value)} (hy : plainName mi.1.cls = true) (hn : (lg_sl As).length ≤ mi.2.2.1) (hlc : lv_args 0 As = lc) (body : ∀ k : jw_K, jw_Rm k d mc ms → jw_E o k mc ms Φ → jw_X mi o k 0 0 0 lc [] μ hs) : jw_Spec mi d mc ms o As μ hs Φ := by
  refine Met.ofW (cc := mi.2.1) (maxL := mi.2.2.1) (ret := mi.2.2.2) hy rfl ?_
  intro p e s m args below meth c s₁ B hml hv
  obtain ⟨rfl, h1, h2, h3, h4, h5, h6⟩ := hv
  have hts := atoms_spec (ws := jw_ws mi) B.pre
  have hown : s.vm.findClass mi.1.cls = some m.cls := findClass_of_methodNamed B.named
  have hname := (name_of_methodNamed B.named B.method).1
  have hb := body (p, e, jw_rm d mc ms, s, m, As.toArray, below, meth, c, MQ below (jw_Q o Φ) As.toArray s mc ms (fun q => o.2.2.2.1 ≤ q)) ⟨Nat.le_refl _, Nat.le_refl _, Nat.le_refl _, Nat.le_refl _⟩ (fun _ _ _ h => h) ⟨B.exec, B.bytes, B.returns, hml, hown, fun w h => hts w (List.mem_cons_of_mem _ h), B.notSynchronized, hname, h3, h4, by rw [h1]; exact h5, h6⟩
  rw [lg_entry_eq]
  exact hb s.heap [] _ h1 h2 va_S.rf (hlc ▸ lv_entry As hn)
theorem jw_ro {mi : jw_M} {o : jw_O} {d hs : Nat} {As : List Value} {μ : jw_Mem} {v : Option Value} {lc : List (Nat × Value)} (hy : plainName mi.1.cls = true) (hn : (lg_sl As).length ≤ mi.2.2.1) (hlc : lv_args 0 As = lc) (body : ∀ k : jw_K, jw_Rm k d 0 0 → jw_E o k 0 0 (fun v' μ' s' => v' = v ∧ μ' = μ ∧ s' = hs) → jw_X mi o k 0 0 0 lc [] μ hs) : jw_Ro mi d o As μ hs v := jw_spec hy hn hlc body
theorem jm_Branchwork_init : jw_mI mi_Branchwork_init 0 := ⟨jq_44, jq_23, jq_45, rfl, rfl, ⟨by decide +kernel, by decide +kernel, by decide +kernel⟩⟩
theorem jm_Tree_init : jw_mI mi_Tree_init 0 := ⟨jq_52, jq_24, jq_53, rfl, rfl, ⟨by decide +kernel, by decide +kernel, by decide +kernel⟩⟩
theorem jm_Content_init : jw_mI mi_Content_init 0 := ⟨jq_59, jq_25, jq_60, rfl, rfl, ⟨by decide +kernel, by decide +kernel, by decide +kernel⟩⟩
theorem jm_History_init : jw_mI mi_History_init 0 := ⟨jq_83, jq_26, jq_84, rfl, rfl, ⟨by decide +kernel, by decide +kernel, by decide +kernel⟩⟩
theorem jm_Merger_init : jw_mI mi_Merger_init 0 := ⟨jq_123, jq_27, jq_124, rfl, rfl, ⟨by decide +kernel, by decide +kernel, by decide +kernel⟩⟩
theorem jm_Conflicts_init : jw_mI mi_Conflicts_init 0 := ⟨jq_131, jq_28, jq_132, rfl, rfl, ⟨by decide +kernel, by decide +kernel, by decide +kernel⟩⟩
theorem jm_Renames_init : jw_mI mi_Renames_init 0 := ⟨jq_147, jq_29, jq_148, rfl, rfl, ⟨by decide +kernel, by decide +kernel, by decide +kernel⟩⟩
theorem jm_Match_init : jw_mI mi_Match_init 0 := ⟨jq_153, jq_30, jq_154, rfl, rfl, ⟨by decide +kernel, by decide +kernel, by decide +kernel⟩⟩
theorem jm_Blender_init : jw_mI mi_Blender_init 0 := ⟨jq_182, jq_31, jq_183, rfl, rfl, ⟨by decide +kernel, by decide +kernel, by decide +kernel⟩⟩
theorem jm_Arrays_fill : jw_mS mi_Arrays_fill 2 := ⟨jq_237, jq_32, jq_238, ⟨by decide +kernel, by decide +kernel, by decide +kernel⟩⟩
theorem jm_Branchwork_put : jw_mV mi_Branchwork_put 3 := ⟨jq_271, jq_272, jq_23, jq_273, ⟨by decide +kernel, by decide +kernel, by decide +kernel⟩⟩
theorem jm_Branchwork_requirePath : jw_mS mi_Branchwork_requirePath 1 := ⟨jq_275, jq_23, jq_276, ⟨by decide +kernel, by decide +kernel, by decide +kernel⟩⟩
theorem jm_Throwable_init0 : jw_mI mi_Throwable_init0 0 := ⟨jq_300, jq_33, jq_301, rfl, rfl, ⟨by decide +kernel, by decide +kernel, by decide +kernel⟩⟩
theorem jm_IndexOutOfBoundsException_init : jw_mI mi_IndexOutOfBoundsException_init 1 := ⟨jq_320, jq_36, jq_321, rfl, rfl, ⟨by decide +kernel, by decide +kernel, by decide +kernel⟩⟩
theorem jm_RuntimeException_init : jw_mI mi_RuntimeException_init 1 := ⟨jq_323, jq_35, jq_324, rfl, rfl, ⟨by decide +kernel, by decide +kernel, by decide +kernel⟩⟩
theorem jm_Exception_init : jw_mI mi_Exception_init 1 := ⟨jq_326, jq_34, jq_327, rfl, rfl, ⟨by decide +kernel, by decide +kernel, by decide +kernel⟩⟩
theorem jm_Throwable_init1 : jw_mI mi_Throwable_init1 1 := ⟨jq_329, jq_33, jq_330, rfl, rfl, ⟨by decide +kernel, by decide +kernel, by decide +kernel⟩⟩
theorem jm_Tree_fileAt : jw_mV mi_Tree_fileAt 1 := ⟨jq_346, jq_347, jq_24, jq_348, ⟨by decide +kernel, by decide +kernel, by decide +kernel⟩⟩
theorem jm_Content_length : jw_mV mi_Content_length 0 := ⟨jq_350, jq_351, jq_25, jq_352, ⟨by decide +kernel, by decide +kernel, by decide +kernel⟩⟩
theorem jm_IllegalArgumentException_init : jw_mI mi_IllegalArgumentException_init 1 := ⟨jq_365, jq_38, jq_366, rfl, rfl, ⟨by decide +kernel, by decide +kernel, by decide +kernel⟩⟩
theorem jm_Content_isFull : jw_mV mi_Content_isFull 0 := ⟨jq_371, jq_372, jq_25, jq_373, ⟨by decide +kernel, by decide +kernel, by decide +kernel⟩⟩
theorem jm_IllegalStateException_init : jw_mI mi_IllegalStateException_init 1 := ⟨jq_385, jq_39, jq_386, rfl, rfl, ⟨by decide +kernel, by decide +kernel, by decide +kernel⟩⟩
theorem jm_Content_insert : jw_mV mi_Content_insert 2 := ⟨jq_391, jq_392, jq_25, jq_393, ⟨by decide +kernel, by decide +kernel, by decide +kernel⟩⟩
theorem jm_Branchwork_rename : jw_mV mi_Branchwork_rename 2 := ⟨jq_395, jq_396, jq_23, jq_397, ⟨by decide +kernel, by decide +kernel, by decide +kernel⟩⟩
theorem jm_Branchwork_requireFile : jw_mS mi_Branchwork_requireFile 2 := ⟨jq_399, jq_23, jq_400, ⟨by decide +kernel, by decide +kernel, by decide +kernel⟩⟩
theorem jm_Tree_has : jw_mV mi_Tree_has 1 := ⟨jq_402, jq_403, jq_24, jq_404, ⟨by decide +kernel, by decide +kernel, by decide +kernel⟩⟩
theorem jm_Content_exists : jw_mV mi_Content_exists 0 := ⟨jq_407, jq_408, jq_25, jq_409, ⟨by decide +kernel, by decide +kernel, by decide +kernel⟩⟩
theorem jm_Content_copyFrom : jw_mV mi_Content_copyFrom 1 := ⟨jq_413, jq_414, jq_25, jq_415, ⟨by decide +kernel, by decide +kernel, by decide +kernel⟩⟩
theorem jm_Math_min : jw_mS mi_Math_min 2 := ⟨jq_418, jq_37, jq_419, ⟨by decide +kernel, by decide +kernel, by decide +kernel⟩⟩
theorem jm_Content_lineAt : jw_mV mi_Content_lineAt 1 := ⟨jq_422, jq_423, jq_25, jq_424, ⟨by decide +kernel, by decide +kernel, by decide +kernel⟩⟩
theorem jm_Content_becomeAbsent : jw_mV mi_Content_becomeAbsent 0 := ⟨jq_426, jq_427, jq_25, jq_428, ⟨by decide +kernel, by decide +kernel, by decide +kernel⟩⟩
theorem jm_Branchwork_commit : jw_mV mi_Branchwork_commit 1 := ⟨jq_430, jq_431, jq_23, jq_432, ⟨by decide +kernel, by decide +kernel, by decide +kernel⟩⟩
theorem jm_History_isFull : jw_mV mi_History_isFull 0 := ⟨jq_435, jq_436, jq_26, jq_437, ⟨by decide +kernel, by decide +kernel, by decide +kernel⟩⟩
theorem jm_Conflicts_howMany : jw_mV mi_Conflicts_howMany 0 := ⟨jq_440, jq_441, jq_28, jq_442, ⟨by decide +kernel, by decide +kernel, by decide +kernel⟩⟩
theorem jm_Branchwork_isClean : jw_mV mi_Branchwork_isClean 0 := ⟨jq_446, jq_1, jq_23, jq_447, ⟨by decide +kernel, by decide +kernel, by decide +kernel⟩⟩
theorem jm_Branchwork_head : jw_mV mi_Branchwork_head 0 := ⟨jq_450, jq_2, jq_23, jq_451, ⟨by decide +kernel, by decide +kernel, by decide +kernel⟩⟩
theorem jm_History_treeOf : jw_mV mi_History_treeOf 1 := ⟨jq_453, jq_454, jq_26, jq_455, ⟨by decide +kernel, by decide +kernel, by decide +kernel⟩⟩
theorem jm_Tree_sameAs : jw_mV mi_Tree_sameAs 1 := ⟨jq_457, jq_458, jq_24, jq_459, ⟨by decide +kernel, by decide +kernel, by decide +kernel⟩⟩
theorem jm_Content_sameAs : jw_mV mi_Content_sameAs 1 := ⟨jq_461, jq_462, jq_25, jq_463, ⟨by decide +kernel, by decide +kernel, by decide +kernel⟩⟩
theorem jm_History_add : jw_mV mi_History_add 4 := ⟨jq_466, jq_467, jq_26, jq_468, ⟨by decide +kernel, by decide +kernel, by decide +kernel⟩⟩
theorem jm_Tree_copyFrom : jw_mV mi_Tree_copyFrom 1 := ⟨jq_470, jq_471, jq_24, jq_472, ⟨by decide +kernel, by decide +kernel, by decide +kernel⟩⟩
theorem jm_History_numberOfTree : jw_mV mi_History_numberOfTree 1 := ⟨jq_476, jq_3, jq_26, jq_477, ⟨by decide +kernel, by decide +kernel, by decide +kernel⟩⟩
theorem jm_History_numberOfContent : jw_mV mi_History_numberOfContent 2 := ⟨jq_482, jq_4, jq_26, jq_483, ⟨by decide +kernel, by decide +kernel, by decide +kernel⟩⟩
theorem jm_History_setOf : jw_mS mi_History_setOf 1 := ⟨jq_488, jq_26, jq_489, ⟨by decide +kernel, by decide +kernel, by decide +kernel⟩⟩
theorem jm_Branchwork_branch : jw_mV mi_Branchwork_branch 0 := ⟨jq_491, jq_492, jq_23, jq_493, ⟨by decide +kernel, by decide +kernel, by decide +kernel⟩⟩
theorem jm_Branchwork_change : jw_mV mi_Branchwork_change 1 := ⟨jq_497, jq_498, jq_23, jq_499, ⟨by decide +kernel, by decide +kernel, by decide +kernel⟩⟩
theorem jm_Branchwork_requireBranch : jw_mV mi_Branchwork_requireBranch 1 := ⟨jq_502, jq_5, jq_23, jq_503, ⟨by decide +kernel, by decide +kernel, by decide +kernel⟩⟩
theorem jm_Branchwork_requireCleanAndUnmerged : jw_mV mi_Branchwork_requireCleanAndUnmerged 0 := ⟨jq_507, jq_6, jq_23, jq_508, ⟨by decide +kernel, by decide +kernel, by decide +kernel⟩⟩
theorem jm_Branchwork_merge : jw_mV mi_Branchwork_merge 1 := ⟨jq_513, jq_514, jq_23, jq_515, ⟨by decide +kernel, by decide +kernel, by decide +kernel⟩⟩
theorem jm_History_commonAncestor : jw_mV mi_History_commonAncestor 2 := ⟨jq_517, jq_518, jq_26, jq_519, ⟨by decide +kernel, by decide +kernel, by decide +kernel⟩⟩
theorem jm_History_ancestorsOf : jw_mV mi_History_ancestorsOf 1 := ⟨jq_521, jq_522, jq_26, jq_523, ⟨by decide +kernel, by decide +kernel, by decide +kernel⟩⟩
theorem jm_History_withAncestors : jw_mV mi_History_withAncestors 1 := ⟨jq_525, jq_526, jq_26, jq_527, ⟨by decide +kernel, by decide +kernel, by decide +kernel⟩⟩
theorem jm_History_isIn : jw_mS mi_History_isIn 2 := ⟨jq_529, jq_26, jq_530, ⟨by decide +kernel, by decide +kernel, by decide +kernel⟩⟩
theorem jm_Merger_mergeTrees : jw_mV mi_Merger_mergeTrees 3 := ⟨jq_532, jq_533, jq_27, jq_534, ⟨by decide +kernel, by decide +kernel, by decide +kernel⟩⟩
theorem jm_Tree_clear : jw_mV mi_Tree_clear 0 := ⟨jq_536, jq_537, jq_24, jq_538, ⟨by decide +kernel, by decide +kernel, by decide +kernel⟩⟩
theorem jm_Conflicts_clear : jw_mV mi_Conflicts_clear 0 := ⟨jq_541, jq_542, jq_28, jq_543, ⟨by decide +kernel, by decide +kernel, by decide +kernel⟩⟩
theorem jm_Renames_trace : jw_mV mi_Renames_trace 2 := ⟨jq_545, jq_546, jq_29, jq_547, ⟨by decide +kernel, by decide +kernel, by decide +kernel⟩⟩
theorem jm_Renames_nearest : jw_mV mi_Renames_nearest 3 := ⟨jq_552, jq_7, jq_29, jq_553, ⟨by decide +kernel, by decide +kernel, by decide +kernel⟩⟩
theorem jm_Match_nearnessOf : jw_mV mi_Match_nearnessOf 2 := ⟨jq_556, jq_557, jq_30, jq_558, ⟨by decide +kernel, by decide +kernel, by decide +kernel⟩⟩
theorem jm_Match_measure : jw_mV mi_Match_measure 2 := ⟨jq_562, jq_8, jq_30, jq_563, ⟨by decide +kernel, by decide +kernel, by decide +kernel⟩⟩
theorem jm_Math_max : jw_mS mi_Math_max 2 := ⟨jq_567, jq_37, jq_568, ⟨by decide +kernel, by decide +kernel, by decide +kernel⟩⟩
theorem jm_Merger_mergeFile : jw_mV mi_Merger_mergeFile 4 := ⟨jq_572, jq_9, jq_27, jq_573, ⟨by decide +kernel, by decide +kernel, by decide +kernel⟩⟩
theorem jm_Renames_fateOf : jw_mV mi_Renames_fateOf 1 := ⟨jq_575, jq_576, jq_29, jq_577, ⟨by decide +kernel, by decide +kernel, by decide +kernel⟩⟩
theorem jm_Merger_mergeLeftOut : jw_mV mi_Merger_mergeLeftOut 4 := ⟨jq_580, jq_10, jq_27, jq_581, ⟨by decide +kernel, by decide +kernel, by decide +kernel⟩⟩
theorem jm_Merger_bring : jw_mV mi_Merger_bring 2 := ⟨jq_586, jq_11, jq_27, jq_587, ⟨by decide +kernel, by decide +kernel, by decide +kernel⟩⟩
theorem jm_Conflicts_tell : jw_mV mi_Conflicts_tell 2 := ⟨jq_589, jq_590, jq_28, jq_591, ⟨by decide +kernel, by decide +kernel, by decide +kernel⟩⟩
theorem jm_Blender_blendInto : jw_mV mi_Blender_blendInto 4 := ⟨jq_594, jq_595, jq_31, jq_596, ⟨by decide +kernel, by decide +kernel, by decide +kernel⟩⟩
theorem jm_Match_pairUp : jw_mV mi_Match_pairUp 2 := ⟨jq_598, jq_599, jq_30, jq_600, ⟨by decide +kernel, by decide +kernel, by decide +kernel⟩⟩
theorem jm_Content_becomeEmpty : jw_mV mi_Content_becomeEmpty 0 := ⟨jq_602, jq_603, jq_25, jq_604, ⟨by decide +kernel, by decide +kernel, by decide +kernel⟩⟩
theorem jm_Match_partnerInB : jw_mV mi_Match_partnerInB 1 := ⟨jq_607, jq_608, jq_30, jq_609, ⟨by decide +kernel, by decide +kernel, by decide +kernel⟩⟩
theorem jm_Content_becomePart : jw_mV mi_Content_becomePart 3 := ⟨jq_611, jq_612, jq_25, jq_613, ⟨by decide +kernel, by decide +kernel, by decide +kernel⟩⟩
theorem jm_Content_append : jw_mV mi_Content_append 1 := ⟨jq_616, jq_617, jq_25, jq_618, ⟨by decide +kernel, by decide +kernel, by decide +kernel⟩⟩
theorem jm_Blender_blendParts : jw_mV mi_Blender_blendParts 1 := ⟨jq_621, jq_12, jq_31, jq_622, ⟨by decide +kernel, by decide +kernel, by decide +kernel⟩⟩
theorem jm_Content_appendAll : jw_mV mi_Content_appendAll 1 := ⟨jq_625, jq_626, jq_25, jq_627, ⟨by decide +kernel, by decide +kernel, by decide +kernel⟩⟩
theorem jm_Merger_isNew : jw_mS mi_Merger_isNew 4 := ⟨jq_631, jq_27, jq_632, ⟨by decide +kernel, by decide +kernel, by decide +kernel⟩⟩
theorem jm_Renames_sourceOf : jw_mV mi_Renames_sourceOf 1 := ⟨jq_634, jq_635, jq_29, jq_636, ⟨by decide +kernel, by decide +kernel, by decide +kernel⟩⟩
theorem jm_Merger_joinNew : jw_mV mi_Merger_joinNew 3 := ⟨jq_639, jq_13, jq_27, jq_640, ⟨by decide +kernel, by decide +kernel, by decide +kernel⟩⟩
theorem jm_Merger_result : jw_mV mi_Merger_result 0 := ⟨jq_642, jq_643, jq_27, jq_644, ⟨by decide +kernel, by decide +kernel, by decide +kernel⟩⟩
theorem jm_Merger_told : jw_mV mi_Merger_told 0 := ⟨jq_646, jq_647, jq_27, jq_648, ⟨by decide +kernel, by decide +kernel, by decide +kernel⟩⟩
theorem jm_Conflicts_copyFrom : jw_mV mi_Conflicts_copyFrom 1 := ⟨jq_650, jq_651, jq_28, jq_652, ⟨by decide +kernel, by decide +kernel, by decide +kernel⟩⟩
theorem jm_Conflicts_codeOf : jw_mV mi_Conflicts_codeOf 1 := ⟨jq_656, jq_657, jq_28, jq_658, ⟨by decide +kernel, by decide +kernel, by decide +kernel⟩⟩
theorem jm_Conflicts_holds : jw_mV mi_Conflicts_holds 1 := ⟨jq_660, jq_661, jq_28, jq_662, ⟨by decide +kernel, by decide +kernel, by decide +kernel⟩⟩
theorem jm_Conflicts_pathOf : jw_mV mi_Conflicts_pathOf 1 := ⟨jq_664, jq_665, jq_28, jq_666, ⟨by decide +kernel, by decide +kernel, by decide +kernel⟩⟩
theorem jm_Branchwork_settle : jw_mV mi_Branchwork_settle 1 := ⟨jq_669, jq_670, jq_23, jq_671, ⟨by decide +kernel, by decide +kernel, by decide +kernel⟩⟩
theorem jm_Branchwork_requireConflict : jw_mV mi_Branchwork_requireConflict 1 := ⟨jq_674, jq_14, jq_23, jq_675, ⟨by decide +kernel, by decide +kernel, by decide +kernel⟩⟩
theorem jm_Conflicts_drop : jw_mV mi_Conflicts_drop 1 := ⟨jq_679, jq_680, jq_28, jq_681, ⟨by decide +kernel, by decide +kernel, by decide +kernel⟩⟩
theorem jm_Branchwork_collect : jw_mV mi_Branchwork_collect 0 := ⟨jq_683, jq_684, jq_23, jq_685, ⟨by decide +kernel, by decide +kernel, by decide +kernel⟩⟩
theorem jm_Branchwork_garbage : jw_mV mi_Branchwork_garbage 0 := ⟨jq_687, jq_688, jq_23, jq_689, ⟨by decide +kernel, by decide +kernel, by decide +kernel⟩⟩
theorem jm_History_kept : jw_mV mi_History_kept 0 := ⟨jq_691, jq_692, jq_26, jq_693, ⟨by decide +kernel, by decide +kernel, by decide +kernel⟩⟩
theorem jm_History_countObjects : jw_mV mi_History_countObjects 1 := ⟨jq_695, jq_696, jq_26, jq_697, ⟨by decide +kernel, by decide +kernel, by decide +kernel⟩⟩
theorem jm_Integer_bitCount : jw_mS mi_Integer_bitCount 1 := ⟨jq_699, jq_40, jq_700, ⟨by decide +kernel, by decide +kernel, by decide +kernel⟩⟩
theorem jm_History_countTrees : jw_mV mi_History_countTrees 1 := ⟨jq_705, jq_706, jq_26, jq_707, ⟨by decide +kernel, by decide +kernel, by decide +kernel⟩⟩
theorem jm_History_countContents : jw_mV mi_History_countContents 1 := ⟨jq_709, jq_710, jq_26, jq_711, ⟨by decide +kernel, by decide +kernel, by decide +kernel⟩⟩
theorem jm_History_meetContents : jw_mV mi_History_meetContents 1 := ⟨jq_714, jq_15, jq_26, jq_715, ⟨by decide +kernel, by decide +kernel, by decide +kernel⟩⟩
theorem jm_Branchwork_reached : jw_mV mi_Branchwork_reached 0 := ⟨jq_719, jq_16, jq_23, jq_720, ⟨by decide +kernel, by decide +kernel, by decide +kernel⟩⟩
theorem jm_History_keepOnly : jw_mV mi_History_keepOnly 1 := ⟨jq_724, jq_725, jq_26, jq_726, ⟨by decide +kernel, by decide +kernel, by decide +kernel⟩⟩
theorem jm_Branchwork_many : jw_mV mi_Branchwork_many 1 := ⟨jq_728, jq_729, jq_23, jq_730, ⟨by decide +kernel, by decide +kernel, by decide +kernel⟩⟩
theorem jm_Tree_countFiles : jw_mV mi_Tree_countFiles 0 := ⟨jq_733, jq_734, jq_24, jq_735, ⟨by decide +kernel, by decide +kernel, by decide +kernel⟩⟩
theorem jm_Branchwork_now : jw_mV mi_Branchwork_now 1 := ⟨jq_741, jq_742, jq_23, jq_743, ⟨by decide +kernel, by decide +kernel, by decide +kernel⟩⟩
theorem jm_Branchwork_at : jw_mV mi_Branchwork_at 1 := ⟨jq_746, jq_747, jq_23, jq_748, ⟨by decide +kernel, by decide +kernel, by decide +kernel⟩⟩
theorem jm_Branchwork_ofCommit : jw_mV mi_Branchwork_ofCommit 2 := ⟨jq_750, jq_751, jq_23, jq_752, ⟨by decide +kernel, by decide +kernel, by decide +kernel⟩⟩
theorem jm_Branchwork_requireCommit : jw_mV mi_Branchwork_requireCommit 1 := ⟨jq_755, jq_17, jq_23, jq_756, ⟨by decide +kernel, by decide +kernel, by decide +kernel⟩⟩
theorem jm_History_holds : jw_mV mi_History_holds 1 := ⟨jq_758, jq_759, jq_26, jq_760, ⟨by decide +kernel, by decide +kernel, by decide +kernel⟩⟩
theorem jm_History_firstParent : jw_mV mi_History_firstParent 1 := ⟨jq_763, jq_764, jq_26, jq_765, ⟨by decide +kernel, by decide +kernel, by decide +kernel⟩⟩
theorem jm_History_secondParent : jw_mV mi_History_secondParent 1 := ⟨jq_767, jq_768, jq_26, jq_769, ⟨by decide +kernel, by decide +kernel, by decide +kernel⟩⟩
theorem jm_History_noteOf : jw_mV mi_History_noteOf 1 := ⟨jq_771, jq_772, jq_26, jq_773, ⟨by decide +kernel, by decide +kernel, by decide +kernel⟩⟩
theorem jm_Branchwork_size : jw_mV mi_Branchwork_size 2 := ⟨jq_777, jq_778, jq_23, jq_779, ⟨by decide +kernel, by decide +kernel, by decide +kernel⟩⟩
theorem jm_Branchwork_fileToShow : jw_mV mi_Branchwork_fileToShow 2 := ⟨jq_782, jq_18, jq_23, jq_783, ⟨by decide +kernel, by decide +kernel, by decide +kernel⟩⟩
theorem jm_Branchwork_conflict : jw_mV mi_Branchwork_conflict 2 := ⟨jq_786, jq_787, jq_23, jq_788, ⟨by decide +kernel, by decide +kernel, by decide +kernel⟩⟩
theorem jm_Branchwork_base : jw_mV mi_Branchwork_base 2 := ⟨jq_793, jq_794, jq_23, jq_795, ⟨by decide +kernel, by decide +kernel, by decide +kernel⟩⟩
theorem jm_Branchwork_went : jw_mV mi_Branchwork_went 3 := ⟨jq_797, jq_798, jq_23, jq_799, ⟨by decide +kernel, by decide +kernel, by decide +kernel⟩⟩
theorem jm_Branchwork_changes : jw_mV mi_Branchwork_changes 3 := ⟨jq_803, jq_804, jq_23, jq_805, ⟨by decide +kernel, by decide +kernel, by decide +kernel⟩⟩
theorem jm_Branchwork_kindOfChange : jw_mV mi_Branchwork_kindOfChange 3 := ⟨jq_809, jq_19, jq_23, jq_810, ⟨by decide +kernel, by decide +kernel, by decide +kernel⟩⟩
theorem jm_Renames_howMany : jw_mV mi_Renames_howMany 0 := ⟨jq_814, jq_815, jq_29, jq_816, ⟨by decide +kernel, by decide +kernel, by decide +kernel⟩⟩
theorem jm_Branchwork_nearness : jw_mV mi_Branchwork_nearness 4 := ⟨jq_818, jq_819, jq_23, jq_820, ⟨by decide +kernel, by decide +kernel, by decide +kernel⟩⟩
theorem jm_Branchwork_origin : jw_mV mi_Branchwork_origin 3 := ⟨jq_823, jq_824, jq_23, jq_825, ⟨by decide +kernel, by decide +kernel, by decide +kernel⟩⟩
theorem jm_Branchwork_requirePlace : jw_mS mi_Branchwork_requirePlace 2 := ⟨jq_827, jq_23, jq_828, ⟨by decide +kernel, by decide +kernel, by decide +kernel⟩⟩
theorem jm_Content_holds : jw_mV mi_Content_holds 1 := ⟨jq_830, jq_831, jq_25, jq_832, ⟨by decide +kernel, by decide +kernel, by decide +kernel⟩⟩
theorem jm_Branchwork_spotInParent : jw_mV mi_Branchwork_spotInParent 3 := ⟨jq_835, jq_20, jq_23, jq_836, ⟨by decide +kernel, by decide +kernel, by decide +kernel⟩⟩
theorem jm_Match_partnerInA : jw_mV mi_Match_partnerInA 1 := ⟨jq_839, jq_840, jq_30, jq_841, ⟨by decide +kernel, by decide +kernel, by decide +kernel⟩⟩
theorem jm_Branchwork_conflictsOf : jw_mV mi_Branchwork_conflictsOf 2 := ⟨jq_843, jq_844, jq_23, jq_845, ⟨by decide +kernel, by decide +kernel, by decide +kernel⟩⟩
theorem jm_Branchwork_digest : jw_mV mi_Branchwork_digest 0 := ⟨jq_848, jq_849, jq_23, jq_850, ⟨by decide +kernel, by decide +kernel, by decide +kernel⟩⟩
theorem jm_Branchwork_fold : jw_mS mi_Branchwork_fold 2 := ⟨jq_854, jq_23, jq_855, ⟨by decide +kernel, by decide +kernel, by decide +kernel⟩⟩
theorem jm_Branchwork_status : jw_mV mi_Branchwork_status 1 := ⟨jq_860, jq_861, jq_23, jq_862, ⟨by decide +kernel, by decide +kernel, by decide +kernel⟩⟩
theorem jm_Branchwork_foldTree : jw_mS mi_Branchwork_foldTree 2 := ⟨jq_864, jq_23, jq_865, ⟨by decide +kernel, by decide +kernel, by decide +kernel⟩⟩
theorem jm_Branchwork_foldCommit : jw_mV mi_Branchwork_foldCommit 2 := ⟨jq_869, jq_21, jq_23, jq_870, ⟨by decide +kernel, by decide +kernel, by decide +kernel⟩⟩
theorem jm_BranchworkLaw_below : jw_mS mi_BranchworkLaw_below 2 := ⟨jq_873, jq_22, jq_874, ⟨by decide +kernel, by decide +kernel, by decide +kernel⟩⟩
theorem jm_BranchworkLaw_cell : jw_mS mi_BranchworkLaw_cell 2 := ⟨jq_877, jq_22, jq_878, ⟨by decide +kernel, by decide +kernel, by decide +kernel⟩⟩
theorem jm_BranchworkLaw_countRenamed : jw_mS mi_BranchworkLaw_countRenamed 3 := ⟨jq_881, jq_22, jq_882, ⟨by decide +kernel, by decide +kernel, by decide +kernel⟩⟩
theorem jm_BranchworkLaw_isClean : jw_mS mi_BranchworkLaw_isClean 1 := ⟨jq_884, jq_22, jq_885, ⟨by decide +kernel, by decide +kernel, by decide +kernel⟩⟩
