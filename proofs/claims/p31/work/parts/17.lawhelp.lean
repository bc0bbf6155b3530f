theorem jd_BranchworkLaw_below_0 : decode mi_BranchworkLaw_below.2.1 0 = .ok (.iload_n 0, 1) := by decide +kernel
theorem jd_BranchworkLaw_below_1 : decode mi_BranchworkLaw_below.2.1 1 = .ok (.ldc 7, 2) := by decide +kernel
theorem jd_BranchworkLaw_below_3 : decode mi_BranchworkLaw_below.2.1 3 = .ok (.iand, 1) := by decide +kernel
theorem jd_BranchworkLaw_below_4 : decode mi_BranchworkLaw_below.2.1 4 = .ok (.iload_n 1, 1) := by decide +kernel
theorem jd_BranchworkLaw_below_5 : decode mi_BranchworkLaw_below.2.1 5 = .ok (.irem, 1) := by decide +kernel
theorem jd_BranchworkLaw_below_6 : decode mi_BranchworkLaw_below.2.1 6 = .ok (.ireturn, 1) := by decide +kernel
theorem jd_BranchworkLaw_cell_0 : decode mi_BranchworkLaw_cell.2.1 0 = .ok (.iload_n 1, 1) := by decide +kernel
theorem jd_BranchworkLaw_cell_1 : decode mi_BranchworkLaw_cell.2.1 1 = .ok (.aload_n 0, 1) := by decide +kernel
theorem jd_BranchworkLaw_cell_2 : decode mi_BranchworkLaw_cell.2.1 2 = .ok (.arraylength, 1) := by decide +kernel
theorem jd_BranchworkLaw_cell_3 : decode mi_BranchworkLaw_cell.2.1 3 = .ok (.if_icmp .ge 9, 3) := by decide +kernel
theorem jd_BranchworkLaw_cell_6 : decode mi_BranchworkLaw_cell.2.1 6 = .ok (.aload_n 0, 1) := by decide +kernel
theorem jd_BranchworkLaw_cell_7 : decode mi_BranchworkLaw_cell.2.1 7 = .ok (.iload_n 1, 1) := by decide +kernel
theorem jd_BranchworkLaw_cell_8 : decode mi_BranchworkLaw_cell.2.1 8 = .ok (.iaload, 1) := by decide +kernel
theorem jd_BranchworkLaw_cell_9 : decode mi_BranchworkLaw_cell.2.1 9 = .ok (.goto 9, 3) := by decide +kernel
theorem jd_BranchworkLaw_cell_12 : decode mi_BranchworkLaw_cell.2.1 12 = .ok (.ldc 8, 2) := by decide +kernel
theorem jd_BranchworkLaw_cell_14 : decode mi_BranchworkLaw_cell.2.1 14 = .ok (.iload_n 1, 1) := by decide +kernel
theorem jd_BranchworkLaw_cell_15 : decode mi_BranchworkLaw_cell.2.1 15 = .ok (.iconst 3, 1) := by decide +kernel
theorem jd_BranchworkLaw_cell_16 : decode mi_BranchworkLaw_cell.2.1 16 = .ok (.iadd, 1) := by decide +kernel
theorem jd_BranchworkLaw_cell_17 : decode mi_BranchworkLaw_cell.2.1 17 = .ok (.imul, 1) := by decide +kernel
theorem jd_BranchworkLaw_cell_18 : decode mi_BranchworkLaw_cell.2.1 18 = .ok (.ireturn, 1) := by decide +kernel
theorem jd_BranchworkLaw_isClean_0 : decode mi_BranchworkLaw_isClean.2.1 0 = .ok (.iconst 0, 1) := by decide +kernel
theorem jd_BranchworkLaw_isClean_1 : decode mi_BranchworkLaw_isClean.2.1 1 = .ok (.istore_n 1, 1) := by decide +kernel
theorem jd_BranchworkLaw_isClean_2 : decode mi_BranchworkLaw_isClean.2.1 2 = .ok (.iload_n 1, 1) := by decide +kernel
theorem jd_BranchworkLaw_isClean_3 : decode mi_BranchworkLaw_isClean.2.1 3 = .ok (.bipush 12, 2) := by decide +kernel
theorem jd_BranchworkLaw_isClean_5 : decode mi_BranchworkLaw_isClean.2.1 5 = .ok (.if_icmp .ge 19, 3) := by decide +kernel
theorem jd_BranchworkLaw_isClean_8 : decode mi_BranchworkLaw_isClean.2.1 8 = .ok (.aload_n 0, 1) := by decide +kernel
theorem jd_BranchworkLaw_isClean_9 : decode mi_BranchworkLaw_isClean.2.1 9 = .ok (.iload_n 1, 1) := by decide +kernel
theorem jd_BranchworkLaw_isClean_10 : decode mi_BranchworkLaw_isClean.2.1 10 = .ok (.invokevirtual 109, 3) := by decide +kernel
theorem jd_BranchworkLaw_isClean_13 : decode mi_BranchworkLaw_isClean.2.1 13 = .ok (.ifCond .eq 5, 3) := by decide +kernel
theorem jd_BranchworkLaw_isClean_16 : decode mi_BranchworkLaw_isClean.2.1 16 = .ok (.iconst 0, 1) := by decide +kernel
theorem jd_BranchworkLaw_isClean_17 : decode mi_BranchworkLaw_isClean.2.1 17 = .ok (.ireturn, 1) := by decide +kernel
theorem jd_BranchworkLaw_isClean_18 : decode mi_BranchworkLaw_isClean.2.1 18 = .ok (.iinc 1 1, 3) := by decide +kernel
theorem jd_BranchworkLaw_isClean_21 : decode mi_BranchworkLaw_isClean.2.1 21 = .ok (.goto (-19), 3) := by decide +kernel
theorem jd_BranchworkLaw_isClean_24 : decode mi_BranchworkLaw_isClean.2.1 24 = .ok (.iconst 1, 1) := by decide +kernel
theorem jd_BranchworkLaw_isClean_25 : decode mi_BranchworkLaw_isClean.2.1 25 = .ok (.ireturn, 1) := by decide +kernel
theorem jd_BranchworkLaw_countRenamed_0 : decode mi_BranchworkLaw_countRenamed.2.1 0 = .ok (.iconst 0, 1) := by decide +kernel
theorem jd_BranchworkLaw_countRenamed_1 : decode mi_BranchworkLaw_countRenamed.2.1 1 = .ok (.istore_n 3, 1) := by decide +kernel
theorem jd_BranchworkLaw_countRenamed_2 : decode mi_BranchworkLaw_countRenamed.2.1 2 = .ok (.iconst 0, 1) := by decide +kernel
theorem jd_BranchworkLaw_countRenamed_3 : decode mi_BranchworkLaw_countRenamed.2.1 3 = .ok (.istore 4, 2) := by decide +kernel
theorem jd_BranchworkLaw_countRenamed_5 : decode mi_BranchworkLaw_countRenamed.2.1 5 = .ok (.iload 4, 2) := by decide +kernel
theorem jd_BranchworkLaw_countRenamed_7 : decode mi_BranchworkLaw_countRenamed.2.1 7 = .ok (.bipush 12, 2) := by decide +kernel
theorem jd_BranchworkLaw_countRenamed_9 : decode mi_BranchworkLaw_countRenamed.2.1 9 = .ok (.if_icmp .ge 41, 3) := by decide +kernel
theorem jd_BranchworkLaw_countRenamed_12 : decode mi_BranchworkLaw_countRenamed.2.1 12 = .ok (.iload_n 3, 1) := by decide +kernel
theorem jd_BranchworkLaw_countRenamed_13 : decode mi_BranchworkLaw_countRenamed.2.1 13 = .ok (.aload_n 0, 1) := by decide +kernel
theorem jd_BranchworkLaw_countRenamed_14 : decode mi_BranchworkLaw_countRenamed.2.1 14 = .ok (.iload_n 1, 1) := by decide +kernel
theorem jd_BranchworkLaw_countRenamed_15 : decode mi_BranchworkLaw_countRenamed.2.1 15 = .ok (.iload_n 2, 1) := by decide +kernel
theorem jd_BranchworkLaw_countRenamed_16 : decode mi_BranchworkLaw_countRenamed.2.1 16 = .ok (.iload 4, 2) := by decide +kernel
theorem jd_BranchworkLaw_countRenamed_18 : decode mi_BranchworkLaw_countRenamed.2.1 18 = .ok (.invokevirtual 83, 3) := by decide +kernel
theorem jd_BranchworkLaw_countRenamed_21 : decode mi_BranchworkLaw_countRenamed.2.1 21 = .ok (.ifCond .lt 20, 3) := by decide +kernel
theorem jd_BranchworkLaw_countRenamed_24 : decode mi_BranchworkLaw_countRenamed.2.1 24 = .ok (.aload_n 0, 1) := by decide +kernel
theorem jd_BranchworkLaw_countRenamed_25 : decode mi_BranchworkLaw_countRenamed.2.1 25 = .ok (.iload_n 1, 1) := by decide +kernel
theorem jd_BranchworkLaw_countRenamed_26 : decode mi_BranchworkLaw_countRenamed.2.1 26 = .ok (.iload_n 2, 1) := by decide +kernel
theorem jd_BranchworkLaw_countRenamed_27 : decode mi_BranchworkLaw_countRenamed.2.1 27 = .ok (.iload 4, 2) := by decide +kernel
theorem jd_BranchworkLaw_countRenamed_29 : decode mi_BranchworkLaw_countRenamed.2.1 29 = .ok (.invokevirtual 83, 3) := by decide +kernel
theorem jd_BranchworkLaw_countRenamed_32 : decode mi_BranchworkLaw_countRenamed.2.1 32 = .ok (.iload 4, 2) := by decide +kernel
theorem jd_BranchworkLaw_countRenamed_34 : decode mi_BranchworkLaw_countRenamed.2.1 34 = .ok (.if_icmp .eq 7, 3) := by decide +kernel
theorem jd_BranchworkLaw_countRenamed_37 : decode mi_BranchworkLaw_countRenamed.2.1 37 = .ok (.iconst 1, 1) := by decide +kernel
theorem jd_BranchworkLaw_countRenamed_38 : decode mi_BranchworkLaw_countRenamed.2.1 38 = .ok (.goto 4, 3) := by decide +kernel
theorem jd_BranchworkLaw_countRenamed_41 : decode mi_BranchworkLaw_countRenamed.2.1 41 = .ok (.iconst 0, 1) := by decide +kernel
theorem jd_BranchworkLaw_countRenamed_42 : decode mi_BranchworkLaw_countRenamed.2.1 42 = .ok (.iadd, 1) := by decide +kernel
theorem jd_BranchworkLaw_countRenamed_43 : decode mi_BranchworkLaw_countRenamed.2.1 43 = .ok (.istore_n 3, 1) := by decide +kernel
theorem jd_BranchworkLaw_countRenamed_44 : decode mi_BranchworkLaw_countRenamed.2.1 44 = .ok (.iinc 4 1, 3) := by decide +kernel
theorem jd_BranchworkLaw_countRenamed_47 : decode mi_BranchworkLaw_countRenamed.2.1 47 = .ok (.goto (-42), 3) := by decide +kernel
theorem jd_BranchworkLaw_countRenamed_50 : decode mi_BranchworkLaw_countRenamed.2.1 50 = .ok (.iload_n 3, 1) := by decide +kernel
theorem jd_BranchworkLaw_countRenamed_51 : decode mi_BranchworkLaw_countRenamed.2.1 51 = .ok (.ireturn, 1) := by decide +kernel
/-! the law's helpers -/
section
variable {mi : jw_M} {o : jw_O} {k : jw_K} {kc ks pc pc' : Nat} {lc lc' : List (Nat × Value)} {st rest : List Value} {μ : jw_Mem} {σ : zS} {hs : Nat} {Φ : Option Value → zS → Prop}
theorem zy_callV {mj : jw_M} {d d' mc ms a ci n idx : Nat} {As : List Value} {fs : List Value} {T : u_T} {N : Nat} (hR : jw_Rm k d mc ms) (h1 : kc ≤ mc) (h2 : ks ≤ ms) (hS : zSpec mj d' o (.ref a :: As) σ Φ) (hm : jw_mV mj n) (hw : Cond.methodLink mi.1.cls idx mj.1 ∈ jw_T) (hc : jw_cl[ci]? = some (mj.1.cls, T, N)) (hd : decode mi.2.1 pc = .ok (.invokevirtual idx, 3)) (ha : mm o σ a = some (.inr (ci, fs))) (hn : As.length = n) (hst : As.reverse ++ .ref a :: rest = st) (hrs : (rest.map fun v => v.category).sum ≤ 8) (hdd : d' + 1 ≤ d) (hml : mj.2.2.1 ≤ 21) (hp : pc + 3 = pc') (kk : ∀ (v : Option Value) (σ' : zS), Φ v σ' → jw_X mi o k kc ks pc' lc (v.toList ++ rest) (mm o σ') hs) : jw_X mi o k kc ks pc lc st (mm o σ) hs :=
  jw_callV hR (hS hs) hm hw hc hd ha hn hst hrs hdd hml (by omega) (by omega) hp (fun v μ' s' q _ => by obtain ⟨rfl, σ', rfl, q⟩ := q; exact kk v σ' q)
theorem zy_callV0 {mj : jw_M} {d d' mc ms a ci n idx : Nat} {As : List Value} {v : Option Value} {st' : List Value} {fs : List Value} {T : u_T} {N : Nat} (hR : jw_Rm k d mc ms) (h1 : kc ≤ mc) (h2 : ks ≤ ms) (hS : zRo mj d' o (.ref a :: As) σ v) (hm : jw_mV mj n) (hw : Cond.methodLink mi.1.cls idx mj.1 ∈ jw_T) (hc : jw_cl[ci]? = some (mj.1.cls, T, N)) (hd : decode mi.2.1 pc = .ok (.invokevirtual idx, 3)) (ha : mm o σ a = some (.inr (ci, fs))) (hn : As.length = n) (hst : As.reverse ++ .ref a :: rest = st) (hrs : (rest.map fun v => v.category).sum ≤ 8) (hdd : d' + 1 ≤ d) (hml : mj.2.2.1 ≤ 21) (hp : pc + 3 = pc') (hv : v.toList ++ rest = st') (kk : jw_X mi o k kc ks pc' lc st' (mm o σ) hs) : jw_X mi o k kc ks pc lc st (mm o σ) hs :=
  zy_callV hR h1 h2 hS hm hw hc hd ha hn hst hrs hdd hml hp (fun v' σ' q => by obtain ⟨rfl, rfl⟩ := q; rw [hv]; exact kk)
theorem zy_callS {mj : jw_M} {d d' mc ms n idx : Nat} {As : List Value} (hR : jw_Rm k d mc ms) (h1 : kc ≤ mc) (h2 : ks ≤ ms) (hS : zSpec mj d' o As σ Φ) (hm : jw_mS mj n) (hw : Cond.methodLink mi.1.cls idx mj.1 ∈ jw_T) (hd : decode mi.2.1 pc = .ok (.invokestatic idx, 3)) (hn : As.length = n) (hst : As.reverse ++ rest = st) (hrs : (rest.map fun v => v.category).sum ≤ 8) (hdd : d' + 1 ≤ d) (hml : mj.2.2.1 ≤ 21) (hp : pc + 3 = pc') (kk : ∀ (v : Option Value) (σ' : zS), Φ v σ' → jw_X mi o k kc ks pc' lc (v.toList ++ rest) (mm o σ') hs) : jw_X mi o k kc ks pc lc st (mm o σ) hs :=
  jw_callS hR (hS hs) hm hw hd hn hst hrs hdd hml (by omega) (by omega) hp (fun v μ' s' q _ => by obtain ⟨rfl, σ', rfl, q⟩ := q; exact kk v σ' q)
theorem zy_callS0 {mj : jw_M} {d d' mc ms n idx : Nat} {As : List Value} {v : Option Value} {st' : List Value} (hR : jw_Rm k d mc ms) (h1 : kc ≤ mc) (h2 : ks ≤ ms) (hS : zRo mj d' o As σ v) (hm : jw_mS mj n) (hw : Cond.methodLink mi.1.cls idx mj.1 ∈ jw_T) (hd : decode mi.2.1 pc = .ok (.invokestatic idx, 3)) (hn : As.length = n) (hst : As.reverse ++ rest = st) (hrs : (rest.map fun v => v.category).sum ≤ 8) (hdd : d' + 1 ≤ d) (hml : mj.2.2.1 ≤ 21) (hp : pc + 3 = pc') (hv : v.toList ++ rest = st') (kk : jw_X mi o k kc ks pc' lc st' (mm o σ) hs) : jw_X mi o k kc ks pc lc st (mm o σ) hs :=
  zy_callS hR h1 h2 hS hm hw hd hn hst hrs hdd hml hp (fun v' σ' q => by obtain ⟨rfl, rfl⟩ := q; rw [hv]; exact kk)
theorem zy_callI {mj : jw_M} {d d' mc ms a n idx : Nat} {As : List Value} (hR : jw_Rm k d mc ms) (h1 : kc ≤ mc) (h2 : ks ≤ ms) (hS : zSpec mj d' o (.ref a :: As) σ Φ) (hm : jw_mI mj n) (hw : Cond.methodLink mi.1.cls idx mj.1 ∈ jw_T) (hd : decode mi.2.1 pc = .ok (.invokespecial idx, 3)) (hn : As.length = n) (hst : As.reverse ++ .ref a :: rest = st) (hrs : (rest.map fun v => v.category).sum ≤ 8) (hdd : d' + 1 ≤ d) (hml : mj.2.2.1 ≤ 21) (hp : pc + 3 = pc') (kk : ∀ (v : Option Value) (σ' : zS), Φ v σ' → jw_X mi o k kc ks pc' lc (v.toList ++ rest) (mm o σ') hs) : jw_X mi o k kc ks pc lc st (mm o σ) hs :=
  jw_callI hR (hS hs) hm hw hd hn hst hrs hdd hml (by omega) (by omega) hp (fun v μ' s' q _ => by obtain ⟨rfl, σ', rfl, q⟩ := q; exact kk v σ' q)
theorem zy_callI0 {mj : jw_M} {d d' mc ms a n idx : Nat} {As : List Value} {v : Option Value} {st' : List Value} (hR : jw_Rm k d mc ms) (h1 : kc ≤ mc) (h2 : ks ≤ ms) (hS : zRo mj d' o (.ref a :: As) σ v) (hm : jw_mI mj n) (hw : Cond.methodLink mi.1.cls idx mj.1 ∈ jw_T) (hd : decode mi.2.1 pc = .ok (.invokespecial idx, 3)) (hn : As.length = n) (hst : As.reverse ++ .ref a :: rest = st) (hrs : (rest.map fun v => v.category).sum ≤ 8) (hdd : d' + 1 ≤ d) (hml : mj.2.2.1 ≤ 21) (hp : pc + 3 = pc') (hv : v.toList ++ rest = st') (kk : jw_X mi o k kc ks pc' lc st' (mm o σ) hs) : jw_X mi o k kc ks pc lc st (mm o σ) hs :=
  zy_callI hR h1 h2 hS hm hw hd hn hst hrs hdd hml hp (fun v' σ' q => by obtain ⟨rfl, rfl⟩ := q; rw [hv]; exact kk)
theorem zy_callIN {mj : jw_M} {d d' mc ms a n idx : Nat} {host : String} {As : List Value} (hR : jw_Rm k d mc ms) (h1 : kc ≤ mc) (h2 : ks ≤ ms) (hS : zSpec mj d' o (.ref a :: As) σ Φ) (hm : jw_mI mj n) (hw : (mi.1.cls, idx, mj.1, host) ∈ jw_nest) (hd : decode mi.2.1 pc = .ok (.invokespecial idx, 3)) (hn : As.length = n) (hst : As.reverse ++ .ref a :: rest = st) (hrs : (rest.map fun v => v.category).sum ≤ 8) (hdd : d' + 1 ≤ d) (hml : mj.2.2.1 ≤ 21) (hp : pc + 3 = pc') (kk : ∀ (v : Option Value) (σ' : zS), Φ v σ' → jw_X mi o k kc ks pc' lc (v.toList ++ rest) (mm o σ') hs) : jw_X mi o k kc ks pc lc st (mm o σ) hs :=
  jw_callIN hR (hS hs) hm hw hd hn hst hrs hdd hml (by omega) (by omega) hp (fun v μ' s' q _ => by obtain ⟨rfl, σ', rfl, q⟩ := q; exact kk v σ' q)
theorem zy_callIN0 {mj : jw_M} {d d' mc ms a n idx : Nat} {host : String} {As : List Value} {v : Option Value} {st' : List Value} (hR : jw_Rm k d mc ms) (h1 : kc ≤ mc) (h2 : ks ≤ ms) (hS : zRo mj d' o (.ref a :: As) σ v) (hm : jw_mI mj n) (hw : (mi.1.cls, idx, mj.1, host) ∈ jw_nest) (hd : decode mi.2.1 pc = .ok (.invokespecial idx, 3)) (hn : As.length = n) (hst : As.reverse ++ .ref a :: rest = st) (hrs : (rest.map fun v => v.category).sum ≤ 8) (hdd : d' + 1 ≤ d) (hml : mj.2.2.1 ≤ 21) (hp : pc + 3 = pc') (hv : v.toList ++ rest = st') (kk : jw_X mi o k kc ks pc' lc st' (mm o σ) hs) : jw_X mi o k kc ks pc lc st (mm o σ) hs :=
  zy_callIN hR h1 h2 hS hm hw hd hn hst hrs hdd hml hp (fun v' σ' q => by obtain ⟨rfl, rfl⟩ := q; rw [hv]; exact kk)
theorem zy_callSN {mj : jw_M} {d d' mc ms n idx : Nat} {host : String} {As : List Value} (hR : jw_Rm k d mc ms) (h1 : kc ≤ mc) (h2 : ks ≤ ms) (hS : zSpec mj d' o As σ Φ) (hm : jw_mS mj n) (hw : (mi.1.cls, idx, mj.1, host) ∈ jw_nest) (hd : decode mi.2.1 pc = .ok (.invokestatic idx, 3)) (hn : As.length = n) (hst : As.reverse ++ rest = st) (hrs : (rest.map fun v => v.category).sum ≤ 8) (hdd : d' + 1 ≤ d) (hml : mj.2.2.1 ≤ 21) (hp : pc + 3 = pc') (kk : ∀ (v : Option Value) (σ' : zS), Φ v σ' → jw_X mi o k kc ks pc' lc (v.toList ++ rest) (mm o σ') hs) : jw_X mi o k kc ks pc lc st (mm o σ) hs :=
  jw_callSN hR (hS hs) hm hw hd hn hst hrs hdd hml (by omega) (by omega) hp (fun v μ' s' q _ => by obtain ⟨rfl, σ', rfl, q⟩ := q; exact kk v σ' q)
theorem zy_callSN0 {mj : jw_M} {d d' mc ms n idx : Nat} {host : String} {As : List Value} {v : Option Value} {st' : List Value} (hR : jw_Rm k d mc ms) (h1 : kc ≤ mc) (h2 : ks ≤ ms) (hS : zRo mj d' o As σ v) (hm : jw_mS mj n) (hw : (mi.1.cls, idx, mj.1, host) ∈ jw_nest) (hd : decode mi.2.1 pc = .ok (.invokestatic idx, 3)) (hn : As.length = n) (hst : As.reverse ++ rest = st) (hrs : (rest.map fun v => v.category).sum ≤ 8) (hdd : d' + 1 ≤ d) (hml : mj.2.2.1 ≤ 21) (hp : pc + 3 = pc') (hv : v.toList ++ rest = st') (kk : jw_X mi o k kc ks pc' lc st' (mm o σ) hs) : jw_X mi o k kc ks pc lc st (mm o σ) hs :=
  zy_callSN hR h1 h2 hS hm hw hd hn hst hrs hdd hml hp (fun v' σ' q => by obtain ⟨rfl, rfl⟩ := q; rw [hv]; exact kk)
theorem jw_ldc1 {idx : Nat} {v : Int32} (hd : decode mi.2.1 pc = .ok (.ldc idx, 2)) (hw : Cond.constant mi.1.cls idx v ∈ jw_T) (hp : pc + 2 = pc') (kk : jw_X mi o k kc ks pc' lc (.int v :: st) μ hs) : jw_X mi o k kc ks pc lc st μ hs := by
  subst hp; exact fun C H locs ls e1 e2 e3 e4 => lv_ldc C.1 C.2.1 C.2.2.2.2.1 (C.2.2.2.2.2.1 _ hw) hd (kk C H locs ls e1 e2 e3 e4)
theorem jw_sld {b0 L0 : Nat} {xs : Nat → Int32} {x v : Int32} (hX : va_X b0 L0 xs k.2.2.2.1 k.2.2.2.1.heap) (hbl : b0 < k.2.2.2.1.heap.size) (hbA : ¬ o.2.2.2.1 ≤ b0) (hd : decode mi.2.1 pc = .ok (.iaload, 1)) (hin : vp_in x L0) (hv : xs x.toNatClampNeg = v) (hp : pc + 1 = pc') (kk : jw_X mi o k kc ks pc' lc (.int v :: rest) μ hs) : jw_X mi o k kc ks pc lc (.int x :: .ref b0 :: rest) μ hs := by
  subst hp; subst hv
  exact fun C0 H locs ls e1 e2 e3 e4 => va_sld C0.1 C0.2.1 hX hbl hbA e3 hin hd (kk C0 H locs ls e1 e2 e3 e4)
theorem jw_slen {b0 L0 : Nat} {xs : Nat → Int32} {v : Int32} (hX : va_X b0 L0 xs k.2.2.2.1 k.2.2.2.1.heap) (hbl : b0 < k.2.2.2.1.heap.size) (hbA : ¬ o.2.2.2.1 ≤ b0) (hd : decode mi.2.1 pc = .ok (.arraylength, 1)) (hv : Int32.ofNat L0 = v) (hp : pc + 1 = pc') (kk : jw_X mi o k kc ks pc' lc (.int v :: rest) μ hs) : jw_X mi o k kc ks pc lc (.ref b0 :: rest) μ hs := by
  subst hp; subst hv
  exact fun C0 H locs ls e1 e2 e3 e4 => va_slen C0.1 C0.2.1 hX hbl hbA e3 hd (kk C0 H locs ls e1 e2 e3 e4)
theorem jw_wX (kk : ∀ (L : Nat) (xs : Nat → Int32), L ≤ 260 → va_X o.2.2.2.2 L xs k.2.2.2.1 k.2.2.2.1.heap → o.2.2.2.2 < k.2.2.2.1.heap.size → ¬ o.2.2.2.1 ≤ o.2.2.2.2 → jw_X mi o k kc ks pc lc st μ hs) : jw_X mi o k kc ks pc lc st μ hs := fun C H locs ls e1 e2 e3 e4 => by
  obtain ⟨L, xs, h1, h2, h3, h4⟩ := C.xB
  exact kk L xs h1 h2 h3 h4 C H locs ls e1 e2 e3 e4
end
section
variable {o : jw_O} {σ s : zS} {w : zT} {Ts : Nat → zT} {f g t c : Nat → Int} {n kp : Nat} {l : zK} {tp : Nat → Int} {br cu : Nat} {mg : Int}
theorem q_below (v : Int32) (m : Nat) (hm : 1 ≤ m ∧ m ≤ 100) : zSpec mi_BranchworkLaw_below 0 o [.int v, .int (iI m)] σ (fun r s => (∃ q : Nat, q < m ∧ r = some (.int (iI q))) ∧ s = σ) := by
  obtain ⟨a, ha, hv⟩ : ∃ a, a < 2 ^ 32 ∧ v = nI a := ⟨v.toBitVec.toNat, v.toBitVec.isLt, Int32.toBitVec_inj.mp (by show _ = BitVec.ofNat 32 _; simp)⟩
  have hand : v &&& (2147483647 : Int32) = iI ((a % 2147483648 : Nat) : Int) := by
    have e := Nat.and_two_pow_sub_one_eq_mod a 31
    rw [show (2 : Nat) ^ 31 = 2147483648 by decide] at e
    rw [hv, ← iI_nat, show (2147483647 : Int32) = iI ((2147483647 : Nat) : Int) by decide +kernel, iI_and, ← e]
  refine z_spec (by decide +kernel) (Nat.le_of_ble_eq_true rfl) rfl (fun k hs hR hE => ?_)
  refine jw_iload_n (pc' := 1) jd_BranchworkLaw_below_0 rfl rfl rfl ?_
  refine jw_ldc1 (pc' := 3) jd_BranchworkLaw_below_1 jq_875 rfl ?_
  refine jw_iand (pc' := 4) jd_BranchworkLaw_below_3 hand rfl ?_
  refine jw_iload_n (pc' := 5) jd_BranchworkLaw_below_4 rfl rfl rfl ?_
  refine zx_irem (pc' := 6) jd_BranchworkLaw_below_5 (by omega) (by omega) rfl ?_
  refine zx_iret hE jd_BranchworkLaw_below_6 rfl ?_
  exact ⟨⟨a % 2147483648 % m, Nat.mod_lt _ (by omega), by rw [show ((a % 2147483648 : Nat) : Int) % m = ((a % 2147483648 % m : Nat) : Int) from rfl]⟩, rfl⟩
theorem q_cell (i : Nat) (hi : i < 1000) : zSpec mi_BranchworkLaw_cell 0 o [.ref o.2.2.2.2, .int (iI i)] σ (fun r s => (∃ v : Int32, r = some (.int v)) ∧ s = σ) := by
  refine z_spec (by decide +kernel) (Nat.le_of_ble_eq_true rfl) rfl (fun k hs hR hE => ?_)
  refine jw_wX (fun L xs hL hX hbl hbA => ?_)
  refine jw_iload_n (pc' := 1) jd_BranchworkLaw_cell_0 rfl rfl rfl ?_
  refine jw_aload_n (pc' := 2) jd_BranchworkLaw_cell_1 rfl rfl rfl ?_
  refine jw_slen (pc' := 3) hX hbl hbA jd_BranchworkLaw_cell_2 (iI_nat L).symm rfl ?_
  refine zx_icmp_ge (tgt := 12) (pc' := 6) (by omega) (by omega) jd_BranchworkLaw_cell_3 (by decide) rfl (fun q => ?_) (fun q => ?_)
  · refine jw_ldc1 (pc' := 14) jd_BranchworkLaw_cell_12 jq_879 rfl ?_
    refine jw_iload_n (pc' := 15) jd_BranchworkLaw_cell_14 rfl rfl rfl ?_
    refine zx_iconst (pc' := 16) (n := 3) jd_BranchworkLaw_cell_15 rfl ?_
    refine zx_iadd (pc' := 17) jd_BranchworkLaw_cell_16 rfl ?_
    refine jw_imul (pc' := 18) jd_BranchworkLaw_cell_17 rfl rfl ?_
    exact jw_iret hE jd_BranchworkLaw_cell_18 rfl (Nat.le_refl _) (Nat.le_refl _) ⟨rfl, σ, rfl, ⟨_, rfl⟩, rfl⟩
  · refine jw_aload_n (pc' := 7) jd_BranchworkLaw_cell_6 rfl rfl rfl ?_
    refine jw_iload_n (pc' := 8) jd_BranchworkLaw_cell_7 rfl rfl rfl ?_
    rw [iI_nat]
    refine jw_sld (pc' := 9) hX hbl hbA jd_BranchworkLaw_cell_8 (vp_in_nI (by omega) (by omega)) rfl rfl ?_
    refine jw_goto (tgt := 18) jd_BranchworkLaw_cell_9 (by decide) ?_
    exact jw_iret hE jd_BranchworkLaw_cell_18 rfl (Nat.le_refl _) (Nat.le_refl _) ⟨rfl, σ, rfl, ⟨_, rfl⟩, rfl⟩
theorem q_clean (h : GS o σ w Ts f g t c n kp l tp br cu mg) (hv : GV f g n kp tp br cu mg) : zRo mi_BranchworkLaw_isClean 3 o [.ref (zb o)] σ (some (.int (iI (eqT w (trV Ts (tp cu)))))) := by
  refine z_spec (by decide +kernel) (Nat.le_of_ble_eq_true rfl) rfl (fun k hs hR hE => ?_)
  refine zx_iconst (pc' := 1) (n := 0) jd_BranchworkLaw_isClean_0 rfl ?_
  refine jw_istore_n (pc' := 2) (lc' := [(0, _), (1, _)]) jd_BranchworkLaw_isClean_1 rfl (Nat.le_of_ble_eq_true rfl) ⟨rfl, rfl, trivial⟩ rfl ?_
  have loop : ∀ (m i : Nat), i + m = 12 → (∀ p, p < i → w p = trV Ts (tp cu) p) → jw_X mi_BranchworkLaw_isClean o k 0 0 2 [(0, .ref (zb o)), (1, .int (iI i))] [] (mm o σ) hs := by
    intro m
    induction m with
    | zero =>
      intro i hi hA
      refine jw_iload_n (pc' := 3) jd_BranchworkLaw_isClean_2 rfl rfl rfl ?_
      refine zx_bipush (pc' := 5) (n := 12) jd_BranchworkLaw_isClean_3 (by decide +kernel) rfl ?_
      refine zx_icmp_ge (tgt := 24) (pc' := 8) (by first | exact rg_iv _ _ _ | omega) (by first | exact rg_iv _ _ _ | omega) jd_BranchworkLaw_isClean_5 (by decide) rfl (fun q => ?_) (fun q => ?_)
      rotate_left
      · exfalso; omega
      refine zx_iconst (pc' := 25) (n := 1) jd_BranchworkLaw_isClean_24 rfl ?_
      refine zx_zret (by first | exact Or.inl rfl | exact Or.inr rfl | assumption | omega) hE jd_BranchworkLaw_isClean_25 rfl ?_
      exact ⟨by rw [eqT_t (fun p hp => hA p (by omega))], rfl⟩
    | succ m ih =>
      intro i hi hA
      have hr : -2147483648 ≤ stF (w i) (trV Ts (tp cu) i) ∧ stF (w i) (trV Ts (tp cu) i) < 2147483648 := by
        unfold stF
        split
        · split
          · omega
          · split <;> omega
        · omega
      refine jw_iload_n (pc' := 3) jd_BranchworkLaw_isClean_2 rfl rfl rfl ?_
      refine zx_bipush (pc' := 5) (n := 12) jd_BranchworkLaw_isClean_3 (by decide +kernel) rfl ?_
      refine zx_icmp_ge (tgt := 24) (pc' := 8) (by first | exact rg_iv _ _ _ | omega) (by first | exact rg_iv _ _ _ | omega) jd_BranchworkLaw_isClean_5 (by decide) rfl (fun q => ?_) (fun q => ?_)
      · exfalso; omega
      refine jw_aload_n (pc' := 9) jd_BranchworkLaw_isClean_8 rfl rfl rfl ?_
      refine jw_iload_n (pc' := 10) jd_BranchworkLaw_isClean_9 rfl rfl rfl ?_
      refine zx_callV0 (pc' := 13) hR (f_status h hv i (by omega)) jm_Branchwork_status jq_886 jc_Branchwork jd_BranchworkLaw_isClean_10 (mc_Branchwork _) rfl rfl (Nat.le_of_ble_eq_true rfl) (by omega) (by decide) rfl rfl ?_
      refine zx_if_eq (tgt := 18) (pc' := 16) (by first | exact rg_iv _ _ _ | omega) jd_BranchworkLaw_isClean_13 (by decide) rfl (fun q2 => ?_) (fun q2 => ?_)
      · refine zx_iinc (pc' := 21) (lc' := [(0, _), (1, _)]) jd_BranchworkLaw_isClean_18 rfl (Nat.le_of_ble_eq_true rfl) ⟨rfl, rfl, trivial⟩ rfl ?_
        refine jw_goto (tgt := 2) jd_BranchworkLaw_isClean_21 (by decide) ?_
        refine ih (i + 1) (by omega) (fun p hp => ?_)
        by_cases q9 : p = i
        · rw [q9]; exact stF_0.mp q2
        · exact hA p (by omega)
      · refine zx_iconst (pc' := 17) (n := 0) jd_BranchworkLaw_isClean_16 rfl ?_
        refine zx_zret (by first | exact Or.inl rfl | exact Or.inr rfl | assumption | omega) hE jd_BranchworkLaw_isClean_17 rfl ?_
        exact ⟨by rw [eqT_f (fun z => q2 (stF_0.mpr (z i (by omega))))], rfl⟩
  exact loop 12 0 (by omega) (fun p hp => absurd hp (by omega))
theorem q_count (h : GS o σ w Ts f g t c n kp l tp br cu mg) (a b : Nat) (ha : a < 30) (hb : b < 30) (hka : kp.testBit a = true) (hkb : kp.testBit b = true) : zSpec mi_BranchworkLaw_countRenamed 6 o [.ref (zb o), .int (iI a), .int (iI b)] σ (fun v s => v = some (.int (iI (trF (Ts a) (Ts b)).2.2)) ∧ zE o σ s) := by
  have hA := h.2.2.1 a ha
  have hB := h.2.2.1 b hb
  have okA : ∀ p, p < 12 → okV (Ts a p) := fun p hp => (hA.2 p hp).2.1
  have okB : ∀ p, p < 12 → okV (Ts b p) := fun p hp => (hB.2 p hp).2.1
  rw [changes_sum okA okB]
  refine z_spec (by decide +kernel) (Nat.le_of_ble_eq_true rfl) rfl (fun k hs hR hE => ?_)
  refine zx_iconst (pc' := 1) (n := 0) jd_BranchworkLaw_countRenamed_0 rfl ?_
  refine jw_istore_n (pc' := 2) (lc' := [(0, _), (1, _), (2, _), (3, _)]) jd_BranchworkLaw_countRenamed_1 rfl (Nat.le_of_ble_eq_true rfl) ⟨rfl, rfl, rfl, rfl, trivial⟩ rfl ?_
  refine zx_iconst (pc' := 3) (n := 0) jd_BranchworkLaw_countRenamed_2 rfl ?_
  refine jw_istore (pc' := 5) (lc' := [(0, _), (1, _), (2, _), (3, _), (4, _)]) jd_BranchworkLaw_countRenamed_3 (Nat.le_of_ble_eq_true rfl) ⟨rfl, rfl, rfl, rfl, rfl, trivial⟩ rfl ?_
  have loop : ∀ (m i : Nat) (s : zS), i + m = 12 → zE o σ s → jw_X mi_BranchworkLaw_countRenamed o k 0 0 5 [(0, .ref (zb o)), (1, .int (iI a)), (2, .int (iI b)), (3, .int (iI (sm (fun p => if 0 ≤ weF (Ts a) (Ts b) p ∧ ¬ weF (Ts a) (Ts b) p = p then 1 else 0) i))), (4, .int (iI i))] [] (mm o s) hs := by
    intro m
    induction m with
    | zero =>
      intro i s hi E
      refine jw_iload (pc' := 7) jd_BranchworkLaw_countRenamed_5 rfl rfl ?_
      refine zx_bipush (pc' := 9) (n := 12) jd_BranchworkLaw_countRenamed_7 (by decide +kernel) rfl ?_
      refine zx_icmp_ge (tgt := 50) (pc' := 12) (by first | exact rg_iv _ _ _ | omega) (by first | exact rg_iv _ _ _ | omega) jd_BranchworkLaw_countRenamed_9 (by decide) rfl (fun q => ?_) (fun q => ?_)
      rotate_left
      · exfalso; omega
      rw [show i = 12 by omega]
      refine jw_iload_n (pc' := 51) jd_BranchworkLaw_countRenamed_50 rfl rfl rfl ?_
      refine zx_iret hE jd_BranchworkLaw_countRenamed_51 rfl ?_
      exact ⟨rfl, E⟩
    | succ m ih =>
      intro i s hi E
      have r := we_rng okA okB i
      have ih1 := fun s => ih (i + 1) s (by omega)
      have es : sm (fun p => if 0 ≤ weF (Ts a) (Ts b) p ∧ ¬ weF (Ts a) (Ts b) p = p then (1 : Int) else 0) (i + 1) = sm (fun p => if 0 ≤ weF (Ts a) (Ts b) p ∧ ¬ weF (Ts a) (Ts b) p = p then (1 : Int) else 0) i + (if 0 ≤ weF (Ts a) (Ts b) i ∧ ¬ weF (Ts a) (Ts b) i = i then (1 : Int) else 0) := rfl
      rw [es] at ih1
      refine jw_iload (pc' := 7) jd_BranchworkLaw_countRenamed_5 rfl rfl ?_
      refine zx_bipush (pc' := 9) (n := 12) jd_BranchworkLaw_countRenamed_7 (by decide +kernel) rfl ?_
      refine zx_icmp_ge (tgt := 50) (pc' := 12) (by first | exact rg_iv _ _ _ | omega) (by first | exact rg_iv _ _ _ | omega) jd_BranchworkLaw_countRenamed_9 (by decide) rfl (fun q => ?_) (fun q => ?_)
      · exfalso; omega
      refine jw_iload_n (pc' := 13) jd_BranchworkLaw_countRenamed_12 rfl rfl rfl ?_
      refine jw_aload_n (pc' := 14) jd_BranchworkLaw_countRenamed_13 rfl rfl rfl ?_
      refine jw_iload_n (pc' := 15) jd_BranchworkLaw_countRenamed_14 rfl rfl rfl ?_
      refine jw_iload_n (pc' := 16) jd_BranchworkLaw_countRenamed_15 rfl rfl rfl ?_
      refine jw_iload (pc' := 18) jd_BranchworkLaw_countRenamed_16 rfl rfl ?_
      refine zx_callV (pc' := 21) hR (f_went (h.e E) a b i ha hb (by omega) hka hkb) jm_Branchwork_went jq_796 jc_Branchwork jd_BranchworkLaw_countRenamed_18 (mc_Branchwork _) rfl rfl (Nat.le_of_ble_eq_true rfl) (by omega) (by decide) rfl (fun v9 s1 q9 => ?_)
      obtain ⟨rfl, E1⟩ := q9
      refine zx_if_lt (tgt := 41) (pc' := 24) (by first | exact rg_iv _ _ _ | omega) jd_BranchworkLaw_countRenamed_21 (by decide) rfl (fun q2 => ?_) (fun q2 => ?_)
      · refine zx_iconst (pc' := 42) (n := 0) jd_BranchworkLaw_countRenamed_41 rfl ?_
        refine zx_iadd (pc' := 43) jd_BranchworkLaw_countRenamed_42 rfl ?_
        refine jw_istore_n (pc' := 44) (lc' := [(0, _), (1, _), (2, _), (3, _), (4, _)]) jd_BranchworkLaw_countRenamed_43 rfl (Nat.le_of_ble_eq_true rfl) ⟨rfl, rfl, rfl, rfl, rfl, trivial⟩ rfl ?_
        refine zx_iinc (pc' := 47) (lc' := [(0, _), (1, _), (2, _), (3, _), (4, _)]) jd_BranchworkLaw_countRenamed_44 rfl (Nat.le_of_ble_eq_true rfl) ⟨rfl, rfl, rfl, rfl, rfl, trivial⟩ rfl ?_
        refine jw_goto (tgt := 5) jd_BranchworkLaw_countRenamed_47 (by decide) ?_
        rw [if_neg (by omega)] at ih1
        exact ih1 s1 (E.trans E1)
      refine jw_aload_n (pc' := 25) jd_BranchworkLaw_countRenamed_24 rfl rfl rfl ?_
      refine jw_iload_n (pc' := 26) jd_BranchworkLaw_countRenamed_25 rfl rfl rfl ?_
      refine jw_iload_n (pc' := 27) jd_BranchworkLaw_countRenamed_26 rfl rfl rfl ?_
      refine jw_iload (pc' := 29) jd_BranchworkLaw_countRenamed_27 rfl rfl ?_
      refine zx_callV (pc' := 32) hR (f_went (h.e (E.trans E1)) a b i ha hb (by omega) hka hkb) jm_Branchwork_went jq_796 jc_Branchwork jd_BranchworkLaw_countRenamed_29 (mc_Branchwork _) rfl rfl (Nat.le_of_ble_eq_true rfl) (by omega) (by decide) rfl (fun v9 s2 q9 => ?_)
      obtain ⟨rfl, E2⟩ := q9
      refine jw_iload (pc' := 34) jd_BranchworkLaw_countRenamed_32 rfl rfl ?_
      refine zx_icmp_eq (tgt := 41) (pc' := 37) (by first | exact rg_iv _ _ _ | omega) (by first | exact rg_iv _ _ _ | omega) jd_BranchworkLaw_countRenamed_34 (by decide) rfl (fun q3 => ?_) (fun q3 => ?_)
      · refine zx_iconst (pc' := 42) (n := 0) jd_BranchworkLaw_countRenamed_41 rfl ?_
        refine zx_iadd (pc' := 43) jd_BranchworkLaw_countRenamed_42 rfl ?_
        refine jw_istore_n (pc' := 44) (lc' := [(0, _), (1, _), (2, _), (3, _), (4, _)]) jd_BranchworkLaw_countRenamed_43 rfl (Nat.le_of_ble_eq_true rfl) ⟨rfl, rfl, rfl, rfl, rfl, trivial⟩ rfl ?_
        refine zx_iinc (pc' := 47) (lc' := [(0, _), (1, _), (2, _), (3, _), (4, _)]) jd_BranchworkLaw_countRenamed_44 rfl (Nat.le_of_ble_eq_true rfl) ⟨rfl, rfl, rfl, rfl, rfl, trivial⟩ rfl ?_
        refine jw_goto (tgt := 5) jd_BranchworkLaw_countRenamed_47 (by decide) ?_
        rw [if_neg (by omega)] at ih1
        exact ih1 s2 ((E.trans E1).trans E2)
      · refine zx_iconst (pc' := 38) (n := 1) jd_BranchworkLaw_countRenamed_37 rfl ?_
        refine jw_goto (tgt := 42) jd_BranchworkLaw_countRenamed_38 (by decide) ?_
        refine zx_iadd (pc' := 43) jd_BranchworkLaw_countRenamed_42 rfl ?_
        refine jw_istore_n (pc' := 44) (lc' := [(0, _), (1, _), (2, _), (3, _), (4, _)]) jd_BranchworkLaw_countRenamed_43 rfl (Nat.le_of_ble_eq_true rfl) ⟨rfl, rfl, rfl, rfl, rfl, trivial⟩ rfl ?_
        refine zx_iinc (pc' := 47) (lc' := [(0, _), (1, _), (2, _), (3, _), (4, _)]) jd_BranchworkLaw_countRenamed_44 rfl (Nat.le_of_ble_eq_true rfl) ⟨rfl, rfl, rfl, rfl, rfl, trivial⟩ rfl ?_
        refine jw_goto (tgt := 5) jd_BranchworkLaw_countRenamed_47 (by decide) ?_
        rw [if_pos (by omega)] at ih1
        exact ih1 s2 ((E.trans E1).trans E2)
  exact loop 12 0 σ (by omega) zE.rf
end
