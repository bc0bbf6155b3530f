def mi_lawN (nm : String) : jw_M := (⟨"BranchworkLaw", nm, "([I)Z"⟩, code, 9, ret)
section
variable {mi : jw_M} {o : jw_O} {k : jw_K} {kc ks pc pc' hs b0 L0 : Nat} {lc lc' : List (Nat × Value)} {st rest : List Value} {μ : jw_Mem} {xs : Nat → Int32}
theorem jw_sld {x v : Int32} (hX : va_X b0 L0 xs k.2.2.2.1 k.2.2.2.1.heap) (hbl : b0 < k.2.2.2.1.heap.size) (hbA : ¬ o.2.2.2.1 ≤ b0) (hd : decode mi.2.1 pc = .ok (.iaload, 1)) (hin : vp_in x L0) (hv : xs x.toNatClampNeg = v) (hp : pc + 1 = pc') (kk : jw_X mi o k kc ks pc' lc (.int v :: rest) μ hs) : jw_X mi o k kc ks pc lc (.int x :: .ref b0 :: rest) μ hs := by
  subst hp; subst hv
  exact fun C0 H locs ls e1 e2 e3 e4 => va_sld C0.1 C0.2.1 hX hbl hbA e3 hin hd (kk C0 H locs ls e1 e2 e3 e4)
theorem jw_slen {v : Int32} (hX : va_X b0 L0 xs k.2.2.2.1 k.2.2.2.1.heap) (hbl : b0 < k.2.2.2.1.heap.size) (hbA : ¬ o.2.2.2.1 ≤ b0) (hd : decode mi.2.1 pc = .ok (.arraylength, 1)) (hv : Int32.ofNat L0 = v) (hp : pc + 1 = pc') (kk : jw_X mi o k kc ks pc' lc (.int v :: rest) μ hs) : jw_X mi o k kc ks pc lc (.ref b0 :: rest) μ hs := by
  subst hp; subst hv
  exact fun C0 H locs ls e1 e2 e3 e4 => va_slen C0.1 C0.2.1 hX hbl hbA e3 hd (kk C0 H locs ls e1 e2 e3 e4)
theorem jw_dstore {i : Nat} {x : UInt64} (hd : decode mi.2.1 pc = .ok (.dstore i, 2)) (hn : i + 1 < mi.2.2.1) (hl : jw_sb (jw_s2 lc i (.double x)) lc') (hp : pc + 2 = pc') (kk : jw_X mi o k kc ks pc' lc' st μ hs) : jw_X mi o k kc ks pc lc (.double x :: st) μ hs := by
  subst hp; exact fun C H locs ls e1 e2 e3 e4 => lv_dstore C.1 C.2.1 hd e4 hn rfl (fun ls' e5 => kk C H locs ls' e1 e2 e3 (jw_sb_of e5 hl))
theorem jw_dload {i : Nat} {x : UInt64} (hd : decode mi.2.1 pc = .ok (.dload i, 2)) (hv : jw_lk lc i = some (.double x)) (hp : pc + 2 = pc') (kk : jw_X mi o k kc ks pc' lc (.double x :: st) μ hs) : jw_X mi o k kc ks pc lc st μ hs := by
  subst hp; exact fun C H locs ls e1 e2 e3 e4 => lv_dload C.1 C.2.1 hd (jw_at e4 hv) (kk C H locs ls e1 e2 e3 e4)
end
theorem jv_nz {n : Nat} (h : n < 100) (c : (nI n : Int32) = 0) : n = 0 := by
  have e := nI_clamp (n := n) (by omega)
  rw [c] at e
  exact e.symm.trans (by decide)
theorem jv_cmp (x : Int64) : lg_cmp x x = 0 := by
  unfold lg_cmp
  simp
theorem kx_put_lt (x y z : Int32) : kx_put x y z < 100 := by
  unfold kx_put
  (repeat' split) <;> decide
theorem kx_path_lt (x : Int32) : kx_path x < 100 := by
  unfold kx_path
  (repeat' split) <;> decide
theorem kx_commit_lt (x : Int32) : kx_commit x < 100 := by
  unfold kx_commit
  (repeat' split) <;> decide
theorem kx_z_lt (x : Int32) : kx_z x < 100 := by
  unfold kx_z
  (repeat' split) <;> decide
theorem kx_merge_lt (x : Int32) : kx_merge x < 100 := by
  unfold kx_merge
  (repeat' split) <;> decide
theorem kx_small_lt (n : Nat) (x : Int32) : kx_small n x < 100 := by
  unfold kx_small
  (repeat' split) <;> decide
theorem kx_show_lt (x y : Int32) : kx_show x y < 100 := by
  unfold kx_show
  (repeat' split) <;> decide
theorem bq_At.keep {o : jw_O} {μ μ' : jw_Mem} {r : Nat} {th : Int32} (x : bq_At o μ r th) (q : ∀ z, r ≤ z → z < r + 7 → μ' z = μ z) : bq_At o μ' r th := by
  obtain ⟨h1, ⟨c2, h2⟩, ⟨c3, h3⟩, ⟨t0, g, t1, hg⟩, ⟨c5, h5⟩, f, h6, h7⟩ := x
  exact ⟨(q _ (by omega) (by omega)).trans h1, ⟨c2, (q _ (by omega) (by omega)).trans h2⟩, ⟨c3, (q _ (by omega) (by omega)).trans h3⟩, ⟨(q _ (by omega) (by omega)).trans t0, g, (q _ (by omega) (by omega)).trans t1, hg⟩, ⟨c5, (q _ (by omega) (by omega)).trans h5⟩, f, (q _ (by omega) (by omega)).trans h6, h7⟩
/-- the script, its five numbers, the law's room -/
def jl_C (o : jw_O) (k : jw_K) (b0 : Nat) (xs : Nat → Int32) : Prop := va_X b0 5 xs k.2.2.2.1 k.2.2.2.1.heap ∧ b0 < k.2.2.2.1.heap.size ∧ (¬ o.2.2.2.1 ≤ b0) ∧ jw_Rm k 100 611184 7268683
/-- the law's end is the walk's end -/
def jl_End (nm : String) (o : jw_O) (k : jw_K) : Prop := ∀ (kc ks : Nat) (lc : List (Nat × Value)) (μ : jw_Mem) (hs : Nat), kc ≤ 611184 → ks ≤ 7268683 → jw_X (mi_lawN nm) o k kc ks 1823 lc [] μ hs
section
variable {nm : String} {o : jw_O} {k : jw_K} {b0 b : Nat} {xs : Nat → Int32} {μ : jw_Mem} {f : Nat → Int64} {th : Int32} {kc ks : Nat}
theorem jl_17 {hs : Nat} (hC : jl_C o k b0 xs) (hEnd : jl_End nm o k) (hkc : kc ≤ 611184) (hks : ks ≤ 7268683) : jw_X (mi_lawN nm) o k kc ks 1817 [(0, .ref b0), (4, .int (nI 0))] [] μ hs := by
  obtain ⟨hX, hbl, hbA, hR⟩ := hC
  refine jw_iinc (pc' := 1820) (lc' := [(0, _), (4, _)]) jd_law_1817 rfl (rfl : _ = (nI 0 : Int32) + 5) (Nat.le_of_ble_eq_true rfl) ⟨rfl, rfl, trivial⟩ rfl ?_
  refine jw_goto (tgt := 23) jd_law_1820 (by decide) ?_
  refine jw_iload (pc' := 25) jd_law_23 rfl rfl ?_
  refine jw_aload_n (pc' := 26) jd_law_25 rfl rfl rfl ?_
  refine jw_slen (pc' := 27) hX hbl hbA jd_law_26 rfl rfl ?_
  refine jw_iconst (pc' := 28) (v := nI 5) jd_law_27 (by decide +kernel) rfl ?_
  refine jw_isub (pc' := 29) jd_law_28 rfl rfl ?_
  refine jw_icmp_gt (tgt := 1823) (pc' := 32) jd_law_29 (by decide) rfl (fun c => ?_) (fun c => ?_)
  · exact hEnd _ _ _ _ _ hkc hks
  · exact absurd (by decide +kernel) c
theorem jl_put (hC : jl_C o k b0 xs) (hEnd : jl_End nm o k) (h1 : bw_New o μ b) (h2 : bq_At o μ (b + 984) th) (hL : μ (b + 991) = some (.inl (o.2.2.1 4, 1, .inr (.inl f)))) (hkc : kc ≤ 2000) (hks : ks ≤ 20000) : jw_X (mi_lawN nm) o k kc ks 164 [(0, .ref b0), (1, .ref b), (2, .ref (b + 984)), (3, .ref (b + 991)), (4, .int (nI 0))] [] μ (b + 992) := by
  have hC9 := hC
  obtain ⟨hX, hbl, hbA, hR⟩ := hC
  have h0 := h1.1
  have r0 := h2.1
  refine jw_aload_n (pc' := 165) jd_law_164 rfl rfl rfl ?_
  refine jw_aload_n (pc' := 166) jd_law_165 rfl rfl rfl ?_
  refine jw_iload (pc' := 168) jd_law_166 rfl rfl ?_
  refine jw_iconst (pc' := 169) (v := nI 1) jd_law_168 (by decide +kernel) rfl ?_
  refine jw_iadd (pc' := 170) jd_law_169 (by decide +kernel : (nI 0 : Int32) + nI 1 = nI 1) rfl ?_
  refine jw_sld (pc' := 171) hX hbl hbA jd_law_170 (vp_in_nI (n := 1) (by omega) (by omega)) (congrArg xs (nI_clamp (n := 1) (by omega))) rfl ?_
  refine jw_aload_n (pc' := 172) jd_law_171 rfl rfl rfl ?_
  refine jw_iload (pc' := 174) jd_law_172 rfl rfl ?_
  refine jw_iconst (pc' := 175) (v := nI 2) jd_law_174 (by decide +kernel) rfl ?_
  refine jw_iadd (pc' := 176) jd_law_175 (by decide +kernel : (nI 0 : Int32) + nI 2 = nI 2) rfl ?_
  refine jw_sld (pc' := 177) hX hbl hbA jd_law_176 (vp_in_nI (n := 2) (by omega) (by omega)) (congrArg xs (nI_clamp (n := 2) (by omega))) rfl ?_
  refine jw_aload_n (pc' := 178) jd_law_177 rfl rfl rfl ?_
  refine jw_iload (pc' := 180) jd_law_178 rfl rfl ?_
  refine jw_iconst (pc' := 181) (v := nI 3) jd_law_180 (by decide +kernel) rfl ?_
  refine jw_iadd (pc' := 182) jd_law_181 (by decide +kernel : (nI 0 : Int32) + nI 3 = nI 3) rfl ?_
  refine jw_sld (pc' := 183) hX hbl hbA jd_law_182 (vp_in_nI (n := 3) (by omega) (by omega)) (congrArg xs (nI_clamp (n := 3) (by omega))) rfl ?_
  refine jw_aload_n (pc' := 184) jd_law_183 rfl rfl rfl ?_
  refine jw_callSH (pc' := 187) (n := 5) hR (bh_put h1 hL (by omega) (xs 1) (xs 2) (xs 3)) ⟨jq_599, jq_598, jq_54, by decide +kernel, by decide +kernel, by decide +kernel⟩ jq_597 jd_law_184 rfl rfl (Nat.le_of_ble_eq_true rfl) (by omega) (by decide) (by omega) (by omega) rfl (fun v μ s9 q9 hle => ?_)
  obtain ⟨rfl, ⟨g, hL, hg⟩, f8⟩ := q9
  have h2 := h2.keep (fun z z1 z2 => f8 z (by omega) (by omega))
  have r0 := h2.1
  refine jw_istore (pc' := 189) (lc' := [(0, _), (1, _), (2, _), (3, _), (4, _), (5, _)]) jd_law_187 (Nat.le_of_ble_eq_true rfl) ⟨rfl, rfl, rfl, rfl, rfl, rfl, trivial⟩ rfl ?_
  refine jw_aload_n (pc' := 190) jd_law_189 rfl rfl rfl ?_
  refine jw_aload_n (pc' := 191) jd_law_190 rfl rfl rfl ?_
  refine jw_iload (pc' := 193) jd_law_191 rfl rfl ?_
  refine jw_iconst (pc' := 194) (v := nI 1) jd_law_193 (by decide +kernel) rfl ?_
  refine jw_iadd (pc' := 195) jd_law_194 (by decide +kernel : (nI 0 : Int32) + nI 1 = nI 1) rfl ?_
  refine jw_sld (pc' := 196) hX hbl hbA jd_law_195 (vp_in_nI (n := 1) (by omega) (by omega)) (congrArg xs (nI_clamp (n := 1) (by omega))) rfl ?_
  refine jw_aload_n (pc' := 197) jd_law_196 rfl rfl rfl ?_
  refine jw_iload (pc' := 199) jd_law_197 rfl rfl ?_
  refine jw_iconst (pc' := 200) (v := nI 2) jd_law_199 (by decide +kernel) rfl ?_
  refine jw_iadd (pc' := 201) jd_law_200 (by decide +kernel : (nI 0 : Int32) + nI 2 = nI 2) rfl ?_
  refine jw_sld (pc' := 202) hX hbl hbA jd_law_201 (vp_in_nI (n := 2) (by omega) (by omega)) (congrArg xs (nI_clamp (n := 2) (by omega))) rfl ?_
  refine jw_aload_n (pc' := 203) jd_law_202 rfl rfl rfl ?_
  refine jw_iload (pc' := 205) jd_law_203 rfl rfl ?_
  refine jw_iconst (pc' := 206) (v := nI 3) jd_law_205 (by decide +kernel) rfl ?_
  refine jw_iadd (pc' := 207) jd_law_206 (by decide +kernel : (nI 0 : Int32) + nI 3 = nI 3) rfl ?_
  refine jw_sld (pc' := 208) hX hbl hbA jd_law_207 (vp_in_nI (n := 3) (by omega) (by omega)) (congrArg xs (nI_clamp (n := 3) (by omega))) rfl ?_
  refine jw_callV (pc' := 211) hR (br_put h2 (by omega) (xs 1) (xs 2) (xs 3)) jm_BranchworkModel_put jq_1156 jc_BranchworkModel jd_law_208 (by assumption) rfl rfl (Nat.le_of_ble_eq_true rfl) (by omega) (by decide) (by omega) (by omega) rfl (fun v μ s8 q8 hle8 => ?_)
  obtain ⟨⟨w, rfl, hw⟩, ⟨c', r0⟩, f7⟩ := q8
  have hL := (f7 _ (by omega) (by omega)).trans hL
  refine jw_istore (pc' := 213) (lc' := [(0, _), (1, _), (2, _), (3, _), (4, _), (5, _), (6, _)]) jd_law_211 (Nat.le_of_ble_eq_true rfl) ⟨rfl, rfl, rfl, rfl, rfl, rfl, rfl, trivial⟩ rfl ?_
  refine jw_aload_n (pc' := 214) jd_law_213 rfl rfl rfl ?_
  refine jw_callV0 (pc' := 217) hR (bq_thrown r0) jm_BranchworkModel_thrown jq_1152 jc_BranchworkModel jd_law_214 (by assumption) rfl rfl (Nat.le_of_ble_eq_true rfl) (by omega) (by decide) (by omega) (by omega) rfl rfl ?_
  refine jw_iload (pc' := 219) jd_law_217 rfl rfl ?_
  refine jw_icmp_eq (tgt := 224) (pc' := 222) jd_law_219 (by decide) rfl (fun c1 => ?_) (fun c1 => ?_)
  rotate_left
  · exact absurd rfl c1
  refine jw_iload (pc' := 226) jd_law_224 rfl rfl ?_
  refine jw_if_ne (tgt := 241) (pc' := 229) jd_law_226 (by decide) rfl (fun c2 => ?_) (fun c2 => ?_)
  · refine jw_goto (tgt := 1817) jd_law_241 (by decide) ?_
    refine jw_sub (lc' := [(0, _), (4, _)]) ⟨rfl, rfl, trivial⟩ ?_
    exact jl_17 hC9 hEnd (by omega) (by omega)
  have hn := jv_nz (kx_put_lt (xs 1) (xs 2) (xs 3)) c2
  obtain rfl := hw hn
  refine jw_aload_n (pc' := 230) jd_law_229 rfl rfl rfl ?_
  refine jw_iconst (pc' := 231) (v := nI 0) jd_law_230 (by decide +kernel) rfl ?_
  refine jw_lald (pc' := 232) (i := 4) jd_law_231 (by assumption) rfl (vp_in_nI (n := 0) (by omega) (by omega)) ((congrArg g (nI_clamp (n := 0) (by omega))).trans (hg hn)) rfl ?_
  refine jw_iload (pc' := 234) jd_law_232 rfl rfl ?_
  refine jw_i2l (pc' := 235) jd_law_234 rfl rfl ?_
  refine jw_lcmp (pc' := 236) jd_law_235 (jv_cmp _) rfl ?_
  refine jw_if_eq (tgt := 241) (pc' := 239) jd_law_236 (by decide) rfl (fun c3 => ?_) (fun c3 => ?_)
  · refine jw_goto (tgt := 1817) jd_law_241 (by decide) ?_
    refine jw_sub (lc' := [(0, _), (4, _)]) ⟨rfl, rfl, trivial⟩ ?_
    exact jl_17 hC9 hEnd (by omega) (by omega)
  · exact absurd rfl c3
theorem jl_cut (hC : jl_C o k b0 xs) (hEnd : jl_End nm o k) (h1 : bw_New o μ b) (h2 : bq_At o μ (b + 984) th) (hL : μ (b + 991) = some (.inl (o.2.2.1 4, 1, .inr (.inl f)))) (hkc : kc ≤ 2000) (hks : ks ≤ 20000) : jw_X (mi_lawN nm) o k kc ks 244 [(0, .ref b0), (1, .ref b), (2, .ref (b + 984)), (3, .ref (b + 991)), (4, .int (nI 0))] [] μ (b + 992) := by
  have hC9 := hC
  obtain ⟨hX, hbl, hbA, hR⟩ := hC
  have h0 := h1.1
  have r0 := h2.1
  refine jw_aload_n (pc' := 245) jd_law_244 rfl rfl rfl ?_
  refine jw_aload_n (pc' := 246) jd_law_245 rfl rfl rfl ?_
  refine jw_iload (pc' := 248) jd_law_246 rfl rfl ?_
  refine jw_iconst (pc' := 249) (v := nI 1) jd_law_248 (by decide +kernel) rfl ?_
  refine jw_iadd (pc' := 250) jd_law_249 (by decide +kernel : (nI 0 : Int32) + nI 1 = nI 1) rfl ?_
  refine jw_sld (pc' := 251) hX hbl hbA jd_law_250 (vp_in_nI (n := 1) (by omega) (by omega)) (congrArg xs (nI_clamp (n := 1) (by omega))) rfl ?_
  refine jw_aload_n (pc' := 252) jd_law_251 rfl rfl rfl ?_
  refine jw_iload (pc' := 254) jd_law_252 rfl rfl ?_
  refine jw_iconst (pc' := 255) (v := nI 2) jd_law_254 (by decide +kernel) rfl ?_
  refine jw_iadd (pc' := 256) jd_law_255 (by decide +kernel : (nI 0 : Int32) + nI 2 = nI 2) rfl ?_
  refine jw_sld (pc' := 257) hX hbl hbA jd_law_256 (vp_in_nI (n := 2) (by omega) (by omega)) (congrArg xs (nI_clamp (n := 2) (by omega))) rfl ?_
  refine jw_aload_n (pc' := 258) jd_law_257 rfl rfl rfl ?_
  refine jw_callSH (pc' := 261) (n := 4) hR (bh_cut h1 hL (by omega) (xs 1) (xs 2)) ⟨jq_635, jq_634, jq_54, by decide +kernel, by decide +kernel, by decide +kernel⟩ jq_633 jd_law_258 rfl rfl (Nat.le_of_ble_eq_true rfl) (by omega) (by decide) (by omega) (by omega) rfl (fun v μ s9 q9 hle => ?_)
  obtain ⟨rfl, ⟨g, hL, hg⟩, f8⟩ := q9
  have h2 := h2.keep (fun z z1 z2 => f8 z (by omega) (by omega))
  have r0 := h2.1
  refine jw_istore (pc' := 263) (lc' := [(0, _), (1, _), (2, _), (3, _), (4, _), (5, _)]) jd_law_261 (Nat.le_of_ble_eq_true rfl) ⟨rfl, rfl, rfl, rfl, rfl, rfl, trivial⟩ rfl ?_
  refine jw_aload_n (pc' := 264) jd_law_263 rfl rfl rfl ?_
  refine jw_aload_n (pc' := 265) jd_law_264 rfl rfl rfl ?_
  refine jw_iload (pc' := 267) jd_law_265 rfl rfl ?_
  refine jw_iconst (pc' := 268) (v := nI 1) jd_law_267 (by decide +kernel) rfl ?_
  refine jw_iadd (pc' := 269) jd_law_268 (by decide +kernel : (nI 0 : Int32) + nI 1 = nI 1) rfl ?_
  refine jw_sld (pc' := 270) hX hbl hbA jd_law_269 (vp_in_nI (n := 1) (by omega) (by omega)) (congrArg xs (nI_clamp (n := 1) (by omega))) rfl ?_
  refine jw_aload_n (pc' := 271) jd_law_270 rfl rfl rfl ?_
  refine jw_iload (pc' := 273) jd_law_271 rfl rfl ?_
  refine jw_iconst (pc' := 274) (v := nI 2) jd_law_273 (by decide +kernel) rfl ?_
  refine jw_iadd (pc' := 275) jd_law_274 (by decide +kernel : (nI 0 : Int32) + nI 2 = nI 2) rfl ?_
  refine jw_sld (pc' := 276) hX hbl hbA jd_law_275 (vp_in_nI (n := 2) (by omega) (by omega)) (congrArg xs (nI_clamp (n := 2) (by omega))) rfl ?_
  refine jw_callV (pc' := 279) hR (br_cut0 h2 (xs 1) (xs 2)) jm_BranchworkModel_cut0 jq_1196 jc_BranchworkModel jd_law_276 (by assumption) rfl rfl (Nat.le_of_ble_eq_true rfl) (by omega) (by decide) (by omega) (by omega) rfl (fun v μ s8 q8 hle8 => ?_)
  obtain ⟨⟨w, rfl, hw⟩, ⟨c', r0⟩, f7⟩ := q8
  have hL := (f7 _ (by omega) (by omega)).trans hL
  refine jw_istore (pc' := 281) (lc' := [(0, _), (1, _), (2, _), (3, _), (4, _), (5, _), (6, _)]) jd_law_279 (Nat.le_of_ble_eq_true rfl) ⟨rfl, rfl, rfl, rfl, rfl, rfl, rfl, trivial⟩ rfl ?_
  refine jw_aload_n (pc' := 282) jd_law_281 rfl rfl rfl ?_
  refine jw_callV0 (pc' := 285) hR (bq_thrown r0) jm_BranchworkModel_thrown jq_1152 jc_BranchworkModel jd_law_282 (by assumption) rfl rfl (Nat.le_of_ble_eq_true rfl) (by omega) (by decide) (by omega) (by omega) rfl rfl ?_
  refine jw_iload (pc' := 287) jd_law_285 rfl rfl ?_
  refine jw_icmp_eq (tgt := 292) (pc' := 290) jd_law_287 (by decide) rfl (fun c1 => ?_) (fun c1 => ?_)
  rotate_left
  · exact absurd rfl c1
  refine jw_iload (pc' := 294) jd_law_292 rfl rfl ?_
  refine jw_if_ne (tgt := 309) (pc' := 297) jd_law_294 (by decide) rfl (fun c2 => ?_) (fun c2 => ?_)
  · refine jw_goto (tgt := 1817) jd_law_309 (by decide) ?_
    refine jw_sub (lc' := [(0, _), (4, _)]) ⟨rfl, rfl, trivial⟩ ?_
    exact jl_17 hC9 hEnd (by omega) (by omega)
  · exact absurd c2 (by decide)
theorem jl_rename (hC : jl_C o k b0 xs) (hEnd : jl_End nm o k) (h1 : bw_New o μ b) (h2 : bq_At o μ (b + 984) th) (hL : μ (b + 991) = some (.inl (o.2.2.1 4, 1, .inr (.inl f)))) (hkc : kc ≤ 2000) (hks : ks ≤ 20000) : jw_X (mi_lawN nm) o k kc ks 312 [(0, .ref b0), (1, .ref b), (2, .ref (b + 984)), (3, .ref (b + 991)), (4, .int (nI 0))] [] μ (b + 992) := by
  have hC9 := hC
  obtain ⟨hX, hbl, hbA, hR⟩ := hC
  have h0 := h1.1
  have r0 := h2.1
  refine jw_aload_n (pc' := 313) jd_law_312 rfl rfl rfl ?_
  refine jw_aload_n (pc' := 314) jd_law_313 rfl rfl rfl ?_
  refine jw_iload (pc' := 316) jd_law_314 rfl rfl ?_
  refine jw_iconst (pc' := 317) (v := nI 1) jd_law_316 (by decide +kernel) rfl ?_
  refine jw_iadd (pc' := 318) jd_law_317 (by decide +kernel : (nI 0 : Int32) + nI 1 = nI 1) rfl ?_
  refine jw_sld (pc' := 319) hX hbl hbA jd_law_318 (vp_in_nI (n := 1) (by omega) (by omega)) (congrArg xs (nI_clamp (n := 1) (by omega))) rfl ?_
  refine jw_aload_n (pc' := 320) jd_law_319 rfl rfl rfl ?_
  refine jw_iload (pc' := 322) jd_law_320 rfl rfl ?_
  refine jw_iconst (pc' := 323) (v := nI 2) jd_law_322 (by decide +kernel) rfl ?_
  refine jw_iadd (pc' := 324) jd_law_323 (by decide +kernel : (nI 0 : Int32) + nI 2 = nI 2) rfl ?_
  refine jw_sld (pc' := 325) hX hbl hbA jd_law_324 (vp_in_nI (n := 2) (by omega) (by omega)) (congrArg xs (nI_clamp (n := 2) (by omega))) rfl ?_
  refine jw_aload_n (pc' := 326) jd_law_325 rfl rfl rfl ?_
  refine jw_callSH (pc' := 329) (n := 4) hR (bh_rename h1 hL (by omega) (xs 1) (xs 2)) ⟨jq_658, jq_657, jq_54, by decide +kernel, by decide +kernel, by decide +kernel⟩ jq_656 jd_law_326 rfl rfl (Nat.le_of_ble_eq_true rfl) (by omega) (by decide) (by omega) (by omega) rfl (fun v μ s9 q9 hle => ?_)
  obtain ⟨rfl, ⟨g, hL, hg⟩, f8⟩ := q9
  have h2 := h2.keep (fun z z1 z2 => f8 z (by omega) (by omega))
  have r0 := h2.1
  refine jw_istore (pc' := 331) (lc' := [(0, _), (1, _), (2, _), (3, _), (4, _), (5, _)]) jd_law_329 (Nat.le_of_ble_eq_true rfl) ⟨rfl, rfl, rfl, rfl, rfl, rfl, trivial⟩ rfl ?_
  refine jw_aload_n (pc' := 332) jd_law_331 rfl rfl rfl ?_
  refine jw_aload_n (pc' := 333) jd_law_332 rfl rfl rfl ?_
  refine jw_iload (pc' := 335) jd_law_333 rfl rfl ?_
  refine jw_iconst (pc' := 336) (v := nI 1) jd_law_335 (by decide +kernel) rfl ?_
  refine jw_iadd (pc' := 337) jd_law_336 (by decide +kernel : (nI 0 : Int32) + nI 1 = nI 1) rfl ?_
  refine jw_sld (pc' := 338) hX hbl hbA jd_law_337 (vp_in_nI (n := 1) (by omega) (by omega)) (congrArg xs (nI_clamp (n := 1) (by omega))) rfl ?_
  refine jw_aload_n (pc' := 339) jd_law_338 rfl rfl rfl ?_
  refine jw_iload (pc' := 341) jd_law_339 rfl rfl ?_
  refine jw_iconst (pc' := 342) (v := nI 2) jd_law_341 (by decide +kernel) rfl ?_
  refine jw_iadd (pc' := 343) jd_law_342 (by decide +kernel : (nI 0 : Int32) + nI 2 = nI 2) rfl ?_
  refine jw_sld (pc' := 344) hX hbl hbA jd_law_343 (vp_in_nI (n := 2) (by omega) (by omega)) (congrArg xs (nI_clamp (n := 2) (by omega))) rfl ?_
  refine jw_callV (pc' := 347) hR (br_rename h2 (xs 1) (xs 2)) jm_BranchworkModel_rename jq_1204 jc_BranchworkModel jd_law_344 (by assumption) rfl rfl (Nat.le_of_ble_eq_true rfl) (by omega) (by decide) (by omega) (by omega) rfl (fun v μ s8 q8 hle8 => ?_)
  obtain ⟨⟨w, rfl, hw⟩, ⟨c', r0⟩, f7⟩ := q8
  have hL := (f7 _ (by omega) (by omega)).trans hL
  refine jw_istore (pc' := 349) (lc' := [(0, _), (1, _), (2, _), (3, _), (4, _), (5, _), (6, _)]) jd_law_347 (Nat.le_of_ble_eq_true rfl) ⟨rfl, rfl, rfl, rfl, rfl, rfl, rfl, trivial⟩ rfl ?_
  refine jw_aload_n (pc' := 350) jd_law_349 rfl rfl rfl ?_
  refine jw_callV0 (pc' := 353) hR (bq_thrown r0) jm_BranchworkModel_thrown jq_1152 jc_BranchworkModel jd_law_350 (by assumption) rfl rfl (Nat.le_of_ble_eq_true rfl) (by omega) (by decide) (by omega) (by omega) rfl rfl ?_
  refine jw_iload (pc' := 355) jd_law_353 rfl rfl ?_
  refine jw_icmp_eq (tgt := 360) (pc' := 358) jd_law_355 (by decide) rfl (fun c1 => ?_) (fun c1 => ?_)
  rotate_left
  · exact absurd rfl c1
  refine jw_iload (pc' := 362) jd_law_360 rfl rfl ?_
  refine jw_if_ne (tgt := 377) (pc' := 365) jd_law_362 (by decide) rfl (fun c2 => ?_) (fun c2 => ?_)
  · refine jw_goto (tgt := 1817) jd_law_377 (by decide) ?_
    refine jw_sub (lc' := [(0, _), (4, _)]) ⟨rfl, rfl, trivial⟩ ?_
    exact jl_17 hC9 hEnd (by omega) (by omega)
  · exact absurd c2 (by decide)
theorem jl_remove (hC : jl_C o k b0 xs) (hEnd : jl_End nm o k) (h1 : bw_New o μ b) (h2 : bq_At o μ (b + 984) th) (hL : μ (b + 991) = some (.inl (o.2.2.1 4, 1, .inr (.inl f)))) (hkc : kc ≤ 2000) (hks : ks ≤ 20000) : jw_X (mi_lawN nm) o k kc ks 380 [(0, .ref b0), (1, .ref b), (2, .ref (b + 984)), (3, .ref (b + 991)), (4, .int (nI 0))] [] μ (b + 992) := by
  have hC9 := hC
  obtain ⟨hX, hbl, hbA, hR⟩ := hC
  have h0 := h1.1
  have r0 := h2.1
  refine jw_aload_n (pc' := 381) jd_law_380 rfl rfl rfl ?_
  refine jw_aload_n (pc' := 382) jd_law_381 rfl rfl rfl ?_
  refine jw_iload (pc' := 384) jd_law_382 rfl rfl ?_
  refine jw_iconst (pc' := 385) (v := nI 1) jd_law_384 (by decide +kernel) rfl ?_
  refine jw_iadd (pc' := 386) jd_law_385 (by decide +kernel : (nI 0 : Int32) + nI 1 = nI 1) rfl ?_
  refine jw_sld (pc' := 387) hX hbl hbA jd_law_386 (vp_in_nI (n := 1) (by omega) (by omega)) (congrArg xs (nI_clamp (n := 1) (by omega))) rfl ?_
  refine jw_aload_n (pc' := 388) jd_law_387 rfl rfl rfl ?_
  refine jw_callSH (pc' := 391) (n := 3) hR (bh_remove h1 hL (by omega) (xs 1)) ⟨jq_677, jq_676, jq_54, by decide +kernel, by decide +kernel, by decide +kernel⟩ jq_675 jd_law_388 rfl rfl (Nat.le_of_ble_eq_true rfl) (by omega) (by decide) (by omega) (by omega) rfl (fun v μ s9 q9 hle => ?_)
  obtain ⟨rfl, ⟨g, hL, hg⟩, f8⟩ := q9
  have h2 := h2.keep (fun z z1 z2 => f8 z (by omega) (by omega))
  have r0 := h2.1
  refine jw_istore (pc' := 393) (lc' := [(0, _), (1, _), (2, _), (3, _), (4, _), (5, _)]) jd_law_391 (Nat.le_of_ble_eq_true rfl) ⟨rfl, rfl, rfl, rfl, rfl, rfl, trivial⟩ rfl ?_
  refine jw_aload_n (pc' := 394) jd_law_393 rfl rfl rfl ?_
  refine jw_aload_n (pc' := 395) jd_law_394 rfl rfl rfl ?_
  refine jw_iload (pc' := 397) jd_law_395 rfl rfl ?_
  refine jw_iconst (pc' := 398) (v := nI 1) jd_law_397 (by decide +kernel) rfl ?_
  refine jw_iadd (pc' := 399) jd_law_398 (by decide +kernel : (nI 0 : Int32) + nI 1 = nI 1) rfl ?_
  refine jw_sld (pc' := 400) hX hbl hbA jd_law_399 (vp_in_nI (n := 1) (by omega) (by omega)) (congrArg xs (nI_clamp (n := 1) (by omega))) rfl ?_
  refine jw_callV (pc' := 403) hR (br_remove h2 (xs 1)) jm_BranchworkModel_remove jq_1208 jc_BranchworkModel jd_law_400 (by assumption) rfl rfl (Nat.le_of_ble_eq_true rfl) (by omega) (by decide) (by omega) (by omega) rfl (fun v μ s8 q8 hle8 => ?_)
  obtain ⟨⟨w, rfl, hw⟩, ⟨c', r0⟩, f7⟩ := q8
  have hL := (f7 _ (by omega) (by omega)).trans hL
  refine jw_istore (pc' := 405) (lc' := [(0, _), (1, _), (2, _), (3, _), (4, _), (5, _), (6, _)]) jd_law_403 (Nat.le_of_ble_eq_true rfl) ⟨rfl, rfl, rfl, rfl, rfl, rfl, rfl, trivial⟩ rfl ?_
  refine jw_aload_n (pc' := 406) jd_law_405 rfl rfl rfl ?_
  refine jw_callV0 (pc' := 409) hR (bq_thrown r0) jm_BranchworkModel_thrown jq_1152 jc_BranchworkModel jd_law_406 (by assumption) rfl rfl (Nat.le_of_ble_eq_true rfl) (by omega) (by decide) (by omega) (by omega) rfl rfl ?_
  refine jw_iload (pc' := 411) jd_law_409 rfl rfl ?_
  refine jw_icmp_eq (tgt := 416) (pc' := 414) jd_law_411 (by decide) rfl (fun c1 => ?_) (fun c1 => ?_)
  rotate_left
  · exact absurd rfl c1
  refine jw_iload (pc' := 418) jd_law_416 rfl rfl ?_
  refine jw_if_ne (tgt := 433) (pc' := 421) jd_law_418 (by decide) rfl (fun c2 => ?_) (fun c2 => ?_)
  · refine jw_goto (tgt := 1817) jd_law_433 (by decide) ?_
    refine jw_sub (lc' := [(0, _), (4, _)]) ⟨rfl, rfl, trivial⟩ ?_
    exact jl_17 hC9 hEnd (by omega) (by omega)
  · exact absurd c2 (by decide)
theorem jl_status (hC : jl_C o k b0 xs) (hEnd : jl_End nm o k) (h1 : bw_New o μ b) (h2 : bq_At o μ (b + 984) th) (hL : μ (b + 991) = some (.inl (o.2.2.1 4, 1, .inr (.inl f)))) (hkc : kc ≤ 2000) (hks : ks ≤ 20000) : jw_X (mi_lawN nm) o k kc ks 436 [(0, .ref b0), (1, .ref b), (2, .ref (b + 984)), (3, .ref (b + 991)), (4, .int (nI 0))] [] μ (b + 992) := by
  have hC9 := hC
  obtain ⟨hX, hbl, hbA, hR⟩ := hC
  have h0 := h1.1
  have r0 := h2.1
  refine jw_aload_n (pc' := 437) jd_law_436 rfl rfl rfl ?_
  refine jw_aload_n (pc' := 438) jd_law_437 rfl rfl rfl ?_
  refine jw_iload (pc' := 440) jd_law_438 rfl rfl ?_
  refine jw_iconst (pc' := 441) (v := nI 1) jd_law_440 (by decide +kernel) rfl ?_
  refine jw_iadd (pc' := 442) jd_law_441 (by decide +kernel : (nI 0 : Int32) + nI 1 = nI 1) rfl ?_
  refine jw_sld (pc' := 443) hX hbl hbA jd_law_442 (vp_in_nI (n := 1) (by omega) (by omega)) (congrArg xs (nI_clamp (n := 1) (by omega))) rfl ?_
  refine jw_aload_n (pc' := 444) jd_law_443 rfl rfl rfl ?_
  refine jw_callSH (pc' := 447) (n := 3) hR (bh_status h1 hL (by omega) (xs 1)) ⟨jq_684, jq_683, jq_54, by decide +kernel, by decide +kernel, by decide +kernel⟩ jq_682 jd_law_444 rfl rfl (Nat.le_of_ble_eq_true rfl) (by omega) (by decide) (by omega) (by omega) rfl (fun v μ s9 q9 hle => ?_)
  obtain ⟨rfl, ⟨g, hL, hg⟩, f8⟩ := q9
  have h2 := h2.keep (fun z z1 z2 => f8 z (by omega) (by omega))
  have r0 := h2.1
  refine jw_istore (pc' := 449) (lc' := [(0, _), (1, _), (2, _), (3, _), (4, _), (5, _)]) jd_law_447 (Nat.le_of_ble_eq_true rfl) ⟨rfl, rfl, rfl, rfl, rfl, rfl, trivial⟩ rfl ?_
  refine jw_aload_n (pc' := 450) jd_law_449 rfl rfl rfl ?_
  refine jw_aload_n (pc' := 451) jd_law_450 rfl rfl rfl ?_
  refine jw_iload (pc' := 453) jd_law_451 rfl rfl ?_
  refine jw_iconst (pc' := 454) (v := nI 1) jd_law_453 (by decide +kernel) rfl ?_
  refine jw_iadd (pc' := 455) jd_law_454 (by decide +kernel : (nI 0 : Int32) + nI 1 = nI 1) rfl ?_
  refine jw_sld (pc' := 456) hX hbl hbA jd_law_455 (vp_in_nI (n := 1) (by omega) (by omega)) (congrArg xs (nI_clamp (n := 1) (by omega))) rfl ?_
  refine jw_callV (pc' := 459) hR (br_status h2 (by omega) (xs 1)) jm_BranchworkModel_status jq_1217 jc_BranchworkModel jd_law_456 (by assumption) rfl rfl (Nat.le_of_ble_eq_true rfl) (by omega) (by decide) (by omega) (by omega) rfl (fun v μ s8 q8 hle8 => ?_)
  obtain ⟨⟨w, rfl, hw⟩, ⟨c', r0⟩, f7⟩ := q8
  have hL := (f7 _ (by omega) (by omega)).trans hL
  refine jw_istore (pc' := 461) (lc' := [(0, _), (1, _), (2, _), (3, _), (4, _), (5, _), (6, _)]) jd_law_459 (Nat.le_of_ble_eq_true rfl) ⟨rfl, rfl, rfl, rfl, rfl, rfl, rfl, trivial⟩ rfl ?_
  refine jw_aload_n (pc' := 462) jd_law_461 rfl rfl rfl ?_
  refine jw_callV0 (pc' := 465) hR (bq_thrown r0) jm_BranchworkModel_thrown jq_1152 jc_BranchworkModel jd_law_462 (by assumption) rfl rfl (Nat.le_of_ble_eq_true rfl) (by omega) (by decide) (by omega) (by omega) rfl rfl ?_
  refine jw_iload (pc' := 467) jd_law_465 rfl rfl ?_
  refine jw_icmp_eq (tgt := 472) (pc' := 470) jd_law_467 (by decide) rfl (fun c1 => ?_) (fun c1 => ?_)
  rotate_left
  · exact absurd rfl c1
  refine jw_iload (pc' := 474) jd_law_472 rfl rfl ?_
  refine jw_if_ne (tgt := 489) (pc' := 477) jd_law_474 (by decide) rfl (fun c2 => ?_) (fun c2 => ?_)
  · refine jw_goto (tgt := 1817) jd_law_489 (by decide) ?_
    refine jw_sub (lc' := [(0, _), (4, _)]) ⟨rfl, rfl, trivial⟩ ?_
    exact jl_17 hC9 hEnd (by omega) (by omega)
  have hn := jv_nz (kx_path_lt (xs 1)) c2
  obtain rfl := hw hn
  refine jw_aload_n (pc' := 478) jd_law_477 rfl rfl rfl ?_
  refine jw_iconst (pc' := 479) (v := nI 0) jd_law_478 (by decide +kernel) rfl ?_
  refine jw_lald (pc' := 480) (i := 4) jd_law_479 (by assumption) rfl (vp_in_nI (n := 0) (by omega) (by omega)) ((congrArg g (nI_clamp (n := 0) (by omega))).trans (hg hn)) rfl ?_
  refine jw_iload (pc' := 482) jd_law_480 rfl rfl ?_
  refine jw_i2l (pc' := 483) jd_law_482 rfl rfl ?_
  refine jw_lcmp (pc' := 484) jd_law_483 (jv_cmp _) rfl ?_
  refine jw_if_eq (tgt := 489) (pc' := 487) jd_law_484 (by decide) rfl (fun c3 => ?_) (fun c3 => ?_)
  · refine jw_goto (tgt := 1817) jd_law_489 (by decide) ?_
    refine jw_sub (lc' := [(0, _), (4, _)]) ⟨rfl, rfl, trivial⟩ ?_
    exact jl_17 hC9 hEnd (by omega) (by omega)
  · exact absurd rfl c3
theorem jl_commit (hC : jl_C o k b0 xs) (hEnd : jl_End nm o k) (h1 : bw_New o μ b) (h2 : bq_At o μ (b + 984) th) (hL : μ (b + 991) = some (.inl (o.2.2.1 4, 1, .inr (.inl f)))) (hkc : kc ≤ 2000) (hks : ks ≤ 20000) : jw_X (mi_lawN nm) o k kc ks 492 [(0, .ref b0), (1, .ref b), (2, .ref (b + 984)), (3, .ref (b + 991)), (4, .int (nI 0))] [] μ (b + 992) := by
  have hC9 := hC
  obtain ⟨hX, hbl, hbA, hR⟩ := hC
  have h0 := h1.1
  have r0 := h2.1
  refine jw_aload_n (pc' := 493) jd_law_492 rfl rfl rfl ?_
  refine jw_aload_n (pc' := 494) jd_law_493 rfl rfl rfl ?_
  refine jw_iload (pc' := 496) jd_law_494 rfl rfl ?_
  refine jw_iconst (pc' := 497) (v := nI 1) jd_law_496 (by decide +kernel) rfl ?_
  refine jw_iadd (pc' := 498) jd_law_497 (by decide +kernel : (nI 0 : Int32) + nI 1 = nI 1) rfl ?_
  refine jw_sld (pc' := 499) hX hbl hbA jd_law_498 (vp_in_nI (n := 1) (by omega) (by omega)) (congrArg xs (nI_clamp (n := 1) (by omega))) rfl ?_
  refine jw_aload_n (pc' := 500) jd_law_499 rfl rfl rfl ?_
  refine jw_callSH (pc' := 503) (n := 3) hR (bh_commit h1 hL (by omega) (xs 1)) ⟨jq_688, jq_687, jq_54, by decide +kernel, by decide +kernel, by decide +kernel⟩ jq_686 jd_law_500 rfl rfl (Nat.le_of_ble_eq_true rfl) (by omega) (by decide) (by omega) (by omega) rfl (fun v μ s9 q9 hle => ?_)
  obtain ⟨rfl, ⟨g, hL, hg⟩, f8⟩ := q9
  have h2 := h2.keep (fun z z1 z2 => f8 z (by omega) (by omega))
  have r0 := h2.1
  refine jw_istore (pc' := 505) (lc' := [(0, _), (1, _), (2, _), (3, _), (4, _), (5, _)]) jd_law_503 (Nat.le_of_ble_eq_true rfl) ⟨rfl, rfl, rfl, rfl, rfl, rfl, trivial⟩ rfl ?_
  refine jw_aload_n (pc' := 506) jd_law_505 rfl rfl rfl ?_
  refine jw_aload_n (pc' := 507) jd_law_506 rfl rfl rfl ?_
  refine jw_iload (pc' := 509) jd_law_507 rfl rfl ?_
  refine jw_iconst (pc' := 510) (v := nI 1) jd_law_509 (by decide +kernel) rfl ?_
  refine jw_iadd (pc' := 511) jd_law_510 (by decide +kernel : (nI 0 : Int32) + nI 1 = nI 1) rfl ?_
  refine jw_sld (pc' := 512) hX hbl hbA jd_law_511 (vp_in_nI (n := 1) (by omega) (by omega)) (congrArg xs (nI_clamp (n := 1) (by omega))) rfl ?_
  refine jw_callV (pc' := 515) hR (br_commit h2 (by omega) (xs 1)) jm_BranchworkModel_commit jq_1251 jc_BranchworkModel jd_law_512 (by assumption) rfl rfl (Nat.le_of_ble_eq_true rfl) (by omega) (by decide) (by omega) (by omega) rfl (fun v μ s8 q8 hle8 => ?_)
  obtain ⟨⟨w, rfl, hw⟩, ⟨c', r0⟩, f7⟩ := q8
  have hL := (f7 _ (by omega) (by omega)).trans hL
  refine jw_istore (pc' := 517) (lc' := [(0, _), (1, _), (2, _), (3, _), (4, _), (5, _), (6, _)]) jd_law_515 (Nat.le_of_ble_eq_true rfl) ⟨rfl, rfl, rfl, rfl, rfl, rfl, rfl, trivial⟩ rfl ?_
  refine jw_aload_n (pc' := 518) jd_law_517 rfl rfl rfl ?_
  refine jw_callV0 (pc' := 521) hR (bq_thrown r0) jm_BranchworkModel_thrown jq_1152 jc_BranchworkModel jd_law_518 (by assumption) rfl rfl (Nat.le_of_ble_eq_true rfl) (by omega) (by decide) (by omega) (by omega) rfl rfl ?_
  refine jw_iload (pc' := 523) jd_law_521 rfl rfl ?_
  refine jw_icmp_eq (tgt := 528) (pc' := 526) jd_law_523 (by decide) rfl (fun c1 => ?_) (fun c1 => ?_)
  rotate_left
  · exact absurd rfl c1
  refine jw_iload (pc' := 530) jd_law_528 rfl rfl ?_
  refine jw_if_ne (tgt := 545) (pc' := 533) jd_law_530 (by decide) rfl (fun c2 => ?_) (fun c2 => ?_)
  · refine jw_goto (tgt := 1817) jd_law_545 (by decide) ?_
    refine jw_sub (lc' := [(0, _), (4, _)]) ⟨rfl, rfl, trivial⟩ ?_
    exact jl_17 hC9 hEnd (by omega) (by omega)
  have hn := jv_nz (kx_commit_lt (xs 1)) c2
  obtain rfl := hw hn
  refine jw_aload_n (pc' := 534) jd_law_533 rfl rfl rfl ?_
  refine jw_iconst (pc' := 535) (v := nI 0) jd_law_534 (by decide +kernel) rfl ?_
  refine jw_lald (pc' := 536) (i := 4) jd_law_535 (by assumption) rfl (vp_in_nI (n := 0) (by omega) (by omega)) ((congrArg g (nI_clamp (n := 0) (by omega))).trans (hg hn)) rfl ?_
  refine jw_iload (pc' := 538) jd_law_536 rfl rfl ?_
  refine jw_i2l (pc' := 539) jd_law_538 rfl rfl ?_
  refine jw_lcmp (pc' := 540) jd_law_539 (jv_cmp _) rfl ?_
  refine jw_if_eq (tgt := 545) (pc' := 543) jd_law_540 (by decide) rfl (fun c3 => ?_) (fun c3 => ?_)
  · refine jw_goto (tgt := 1817) jd_law_545 (by decide) ?_
    refine jw_sub (lc' := [(0, _), (4, _)]) ⟨rfl, rfl, trivial⟩ ?_
    exact jl_17 hC9 hEnd (by omega) (by omega)
  · exact absurd rfl c3
theorem jl_branch (hC : jl_C o k b0 xs) (hEnd : jl_End nm o k) (h1 : bw_New o μ b) (h2 : bq_At o μ (b + 984) th) (hL : μ (b + 991) = some (.inl (o.2.2.1 4, 1, .inr (.inl f)))) (hkc : kc ≤ 2000) (hks : ks ≤ 20000) : jw_X (mi_lawN nm) o k kc ks 548 [(0, .ref b0), (1, .ref b), (2, .ref (b + 984)), (3, .ref (b + 991)), (4, .int (nI 0))] [] μ (b + 992) := by
  have hC9 := hC
  obtain ⟨hX, hbl, hbA, hR⟩ := hC
  have h0 := h1.1
  have r0 := h2.1
  refine jw_aload_n (pc' := 549) jd_law_548 rfl rfl rfl ?_
  refine jw_aload_n (pc' := 550) jd_law_549 rfl rfl rfl ?_
  refine jw_callSH (pc' := 553) (n := 2) hR (bh_branch h1 hL (by omega) ) ⟨jq_732, jq_731, jq_54, by decide +kernel, by decide +kernel, by decide +kernel⟩ jq_730 jd_law_550 rfl rfl (Nat.le_of_ble_eq_true rfl) (by omega) (by decide) (by omega) (by omega) rfl (fun v μ s9 q9 hle => ?_)
  obtain ⟨rfl, ⟨g, hL, hg⟩, f8⟩ := q9
  have h2 := h2.keep (fun z z1 z2 => f8 z (by omega) (by omega))
  have r0 := h2.1
  refine jw_istore (pc' := 555) (lc' := [(0, _), (1, _), (2, _), (3, _), (4, _), (5, _)]) jd_law_553 (Nat.le_of_ble_eq_true rfl) ⟨rfl, rfl, rfl, rfl, rfl, rfl, trivial⟩ rfl ?_
  refine jw_aload_n (pc' := 556) jd_law_555 rfl rfl rfl ?_
  refine jw_callV (pc' := 559) hR (br_branch h2 ) jm_BranchworkModel_branch jq_1305 jc_BranchworkModel jd_law_556 (by assumption) rfl rfl (Nat.le_of_ble_eq_true rfl) (by omega) (by decide) (by omega) (by omega) rfl (fun v μ s8 q8 hle8 => ?_)
  obtain ⟨⟨w, rfl, hw⟩, ⟨c', r0⟩, f7⟩ := q8
  have hL := (f7 _ (by omega) (by omega)).trans hL
  refine jw_istore (pc' := 561) (lc' := [(0, _), (1, _), (2, _), (3, _), (4, _), (5, _), (6, _)]) jd_law_559 (Nat.le_of_ble_eq_true rfl) ⟨rfl, rfl, rfl, rfl, rfl, rfl, rfl, trivial⟩ rfl ?_
  refine jw_aload_n (pc' := 562) jd_law_561 rfl rfl rfl ?_
  refine jw_callV0 (pc' := 565) hR (bq_thrown r0) jm_BranchworkModel_thrown jq_1152 jc_BranchworkModel jd_law_562 (by assumption) rfl rfl (Nat.le_of_ble_eq_true rfl) (by omega) (by decide) (by omega) (by omega) rfl rfl ?_
  refine jw_iload (pc' := 567) jd_law_565 rfl rfl ?_
  refine jw_icmp_eq (tgt := 572) (pc' := 570) jd_law_567 (by decide) rfl (fun c1 => ?_) (fun c1 => ?_)
  rotate_left
  · exact absurd rfl c1
  refine jw_iload (pc' := 574) jd_law_572 rfl rfl ?_
  refine jw_if_ne (tgt := 589) (pc' := 577) jd_law_574 (by decide) rfl (fun c2 => ?_) (fun c2 => ?_)
  · refine jw_goto (tgt := 1817) jd_law_589 (by decide) ?_
    refine jw_sub (lc' := [(0, _), (4, _)]) ⟨rfl, rfl, trivial⟩ ?_
    exact jl_17 hC9 hEnd (by omega) (by omega)
  · exact absurd c2 (by decide)
theorem jl_change (hC : jl_C o k b0 xs) (hEnd : jl_End nm o k) (h1 : bw_New o μ b) (h2 : bq_At o μ (b + 984) th) (hL : μ (b + 991) = some (.inl (o.2.2.1 4, 1, .inr (.inl f)))) (hkc : kc ≤ 2000) (hks : ks ≤ 20000) : jw_X (mi_lawN nm) o k kc ks 592 [(0, .ref b0), (1, .ref b), (2, .ref (b + 984)), (3, .ref (b + 991)), (4, .int (nI 0))] [] μ (b + 992) := by
  have hC9 := hC
  obtain ⟨hX, hbl, hbA, hR⟩ := hC
  have h0 := h1.1
  have r0 := h2.1
  refine jw_aload_n (pc' := 593) jd_law_592 rfl rfl rfl ?_
  refine jw_aload_n (pc' := 594) jd_law_593 rfl rfl rfl ?_
  refine jw_iload (pc' := 596) jd_law_594 rfl rfl ?_
  refine jw_iconst (pc' := 597) (v := nI 1) jd_law_596 (by decide +kernel) rfl ?_
  refine jw_iadd (pc' := 598) jd_law_597 (by decide +kernel : (nI 0 : Int32) + nI 1 = nI 1) rfl ?_
  refine jw_sld (pc' := 599) hX hbl hbA jd_law_598 (vp_in_nI (n := 1) (by omega) (by omega)) (congrArg xs (nI_clamp (n := 1) (by omega))) rfl ?_
  refine jw_aload_n (pc' := 600) jd_law_599 rfl rfl rfl ?_
  refine jw_callSH (pc' := 603) (n := 3) hR (bh_change h1 hL (by omega) (xs 1)) ⟨jq_741, jq_740, jq_54, by decide +kernel, by decide +kernel, by decide +kernel⟩ jq_739 jd_law_600 rfl rfl (Nat.le_of_ble_eq_true rfl) (by omega) (by decide) (by omega) (by omega) rfl (fun v μ s9 q9 hle => ?_)
  obtain ⟨rfl, ⟨g, hL, hg⟩, f8⟩ := q9
  have h2 := h2.keep (fun z z1 z2 => f8 z (by omega) (by omega))
  have r0 := h2.1
  refine jw_istore (pc' := 605) (lc' := [(0, _), (1, _), (2, _), (3, _), (4, _), (5, _)]) jd_law_603 (Nat.le_of_ble_eq_true rfl) ⟨rfl, rfl, rfl, rfl, rfl, rfl, trivial⟩ rfl ?_
  refine jw_aload_n (pc' := 606) jd_law_605 rfl rfl rfl ?_
  refine jw_aload_n (pc' := 607) jd_law_606 rfl rfl rfl ?_
  refine jw_iload (pc' := 609) jd_law_607 rfl rfl ?_
  refine jw_iconst (pc' := 610) (v := nI 1) jd_law_609 (by decide +kernel) rfl ?_
  refine jw_iadd (pc' := 611) jd_law_610 (by decide +kernel : (nI 0 : Int32) + nI 1 = nI 1) rfl ?_
  refine jw_sld (pc' := 612) hX hbl hbA jd_law_611 (vp_in_nI (n := 1) (by omega) (by omega)) (congrArg xs (nI_clamp (n := 1) (by omega))) rfl ?_
  refine jw_callV (pc' := 615) hR (br_change h2 (by omega) (xs 1)) jm_BranchworkModel_change jq_1309 jc_BranchworkModel jd_law_612 (by assumption) rfl rfl (Nat.le_of_ble_eq_true rfl) (by omega) (by decide) (by omega) (by omega) rfl (fun v μ s8 q8 hle8 => ?_)
  obtain ⟨⟨w, rfl, hw⟩, ⟨c', r0⟩, f7⟩ := q8
  have hL := (f7 _ (by omega) (by omega)).trans hL
  refine jw_istore (pc' := 617) (lc' := [(0, _), (1, _), (2, _), (3, _), (4, _), (5, _), (6, _)]) jd_law_615 (Nat.le_of_ble_eq_true rfl) ⟨rfl, rfl, rfl, rfl, rfl, rfl, rfl, trivial⟩ rfl ?_
  refine jw_aload_n (pc' := 618) jd_law_617 rfl rfl rfl ?_
  refine jw_callV0 (pc' := 621) hR (bq_thrown r0) jm_BranchworkModel_thrown jq_1152 jc_BranchworkModel jd_law_618 (by assumption) rfl rfl (Nat.le_of_ble_eq_true rfl) (by omega) (by decide) (by omega) (by omega) rfl rfl ?_
  refine jw_iload (pc' := 623) jd_law_621 rfl rfl ?_
  refine jw_icmp_eq (tgt := 628) (pc' := 626) jd_law_623 (by decide) rfl (fun c1 => ?_) (fun c1 => ?_)
  rotate_left
  · exact absurd rfl c1
  refine jw_iload (pc' := 630) jd_law_628 rfl rfl ?_
  refine jw_if_ne (tgt := 645) (pc' := 633) jd_law_630 (by decide) rfl (fun c2 => ?_) (fun c2 => ?_)
  · refine jw_goto (tgt := 1817) jd_law_645 (by decide) ?_
    refine jw_sub (lc' := [(0, _), (4, _)]) ⟨rfl, rfl, trivial⟩ ?_
    exact jl_17 hC9 hEnd (by omega) (by omega)
  have hn := jv_nz (kx_z_lt (xs 1)) c2
  obtain rfl := hw hn
  refine jw_aload_n (pc' := 634) jd_law_633 rfl rfl rfl ?_
  refine jw_iconst (pc' := 635) (v := nI 0) jd_law_634 (by decide +kernel) rfl ?_
  refine jw_lald (pc' := 636) (i := 4) jd_law_635 (by assumption) rfl (vp_in_nI (n := 0) (by omega) (by omega)) ((congrArg g (nI_clamp (n := 0) (by omega))).trans (hg hn)) rfl ?_
  refine jw_iload (pc' := 638) jd_law_636 rfl rfl ?_
  refine jw_i2l (pc' := 639) jd_law_638 rfl rfl ?_
  refine jw_lcmp (pc' := 640) jd_law_639 (jv_cmp _) rfl ?_
  refine jw_if_eq (tgt := 645) (pc' := 643) jd_law_640 (by decide) rfl (fun c3 => ?_) (fun c3 => ?_)
  · refine jw_goto (tgt := 1817) jd_law_645 (by decide) ?_
    refine jw_sub (lc' := [(0, _), (4, _)]) ⟨rfl, rfl, trivial⟩ ?_
    exact jl_17 hC9 hEnd (by omega) (by omega)
  · exact absurd rfl c3
theorem jl_reset (hC : jl_C o k b0 xs) (hEnd : jl_End nm o k) (h1 : bw_New o μ b) (h2 : bq_At o μ (b + 984) th) (hL : μ (b + 991) = some (.inl (o.2.2.1 4, 1, .inr (.inl f)))) (hkc : kc ≤ 2000) (hks : ks ≤ 20000) : jw_X (mi_lawN nm) o k kc ks 648 [(0, .ref b0), (1, .ref b), (2, .ref (b + 984)), (3, .ref (b + 991)), (4, .int (nI 0))] [] μ (b + 992) := by
  have hC9 := hC
  obtain ⟨hX, hbl, hbA, hR⟩ := hC
  have h0 := h1.1
  have r0 := h2.1
  refine jw_aload_n (pc' := 649) jd_law_648 rfl rfl rfl ?_
  refine jw_aload_n (pc' := 650) jd_law_649 rfl rfl rfl ?_
  refine jw_iload (pc' := 652) jd_law_650 rfl rfl ?_
  refine jw_iconst (pc' := 653) (v := nI 1) jd_law_652 (by decide +kernel) rfl ?_
  refine jw_iadd (pc' := 654) jd_law_653 (by decide +kernel : (nI 0 : Int32) + nI 1 = nI 1) rfl ?_
  refine jw_sld (pc' := 655) hX hbl hbA jd_law_654 (vp_in_nI (n := 1) (by omega) (by omega)) (congrArg xs (nI_clamp (n := 1) (by omega))) rfl ?_
  refine jw_aload_n (pc' := 656) jd_law_655 rfl rfl rfl ?_
  refine jw_callSH (pc' := 659) (n := 3) hR (bh_reset h1 hL (by omega) (xs 1)) ⟨jq_755, jq_754, jq_54, by decide +kernel, by decide +kernel, by decide +kernel⟩ jq_753 jd_law_656 rfl rfl (Nat.le_of_ble_eq_true rfl) (by omega) (by decide) (by omega) (by omega) rfl (fun v μ s9 q9 hle => ?_)
  obtain ⟨rfl, ⟨g, hL, hg⟩, f8⟩ := q9
  have h2 := h2.keep (fun z z1 z2 => f8 z (by omega) (by omega))
  have r0 := h2.1
  refine jw_istore (pc' := 661) (lc' := [(0, _), (1, _), (2, _), (3, _), (4, _), (5, _)]) jd_law_659 (Nat.le_of_ble_eq_true rfl) ⟨rfl, rfl, rfl, rfl, rfl, rfl, trivial⟩ rfl ?_
  refine jw_aload_n (pc' := 662) jd_law_661 rfl rfl rfl ?_
  refine jw_aload_n (pc' := 663) jd_law_662 rfl rfl rfl ?_
  refine jw_iload (pc' := 665) jd_law_663 rfl rfl ?_
  refine jw_iconst (pc' := 666) (v := nI 1) jd_law_665 (by decide +kernel) rfl ?_
  refine jw_iadd (pc' := 667) jd_law_666 (by decide +kernel : (nI 0 : Int32) + nI 1 = nI 1) rfl ?_
  refine jw_sld (pc' := 668) hX hbl hbA jd_law_667 (vp_in_nI (n := 1) (by omega) (by omega)) (congrArg xs (nI_clamp (n := 1) (by omega))) rfl ?_
  refine jw_callV (pc' := 671) hR (br_reset h2 (xs 1)) jm_BranchworkModel_reset jq_1317 jc_BranchworkModel jd_law_668 (by assumption) rfl rfl (Nat.le_of_ble_eq_true rfl) (by omega) (by decide) (by omega) (by omega) rfl (fun v μ s8 q8 hle8 => ?_)
  obtain ⟨⟨w, rfl, hw⟩, ⟨c', r0⟩, f7⟩ := q8
  have hL := (f7 _ (by omega) (by omega)).trans hL
  refine jw_istore (pc' := 673) (lc' := [(0, _), (1, _), (2, _), (3, _), (4, _), (5, _), (6, _)]) jd_law_671 (Nat.le_of_ble_eq_true rfl) ⟨rfl, rfl, rfl, rfl, rfl, rfl, rfl, trivial⟩ rfl ?_
  refine jw_aload_n (pc' := 674) jd_law_673 rfl rfl rfl ?_
  refine jw_callV0 (pc' := 677) hR (bq_thrown r0) jm_BranchworkModel_thrown jq_1152 jc_BranchworkModel jd_law_674 (by assumption) rfl rfl (Nat.le_of_ble_eq_true rfl) (by omega) (by decide) (by omega) (by omega) rfl rfl ?_
  refine jw_iload (pc' := 679) jd_law_677 rfl rfl ?_
  refine jw_icmp_eq (tgt := 684) (pc' := 682) jd_law_679 (by decide) rfl (fun c1 => ?_) (fun c1 => ?_)
  rotate_left
  · exact absurd rfl c1
  refine jw_iload (pc' := 686) jd_law_684 rfl rfl ?_
  refine jw_if_ne (tgt := 701) (pc' := 689) jd_law_686 (by decide) rfl (fun c2 => ?_) (fun c2 => ?_)
  · refine jw_goto (tgt := 1817) jd_law_701 (by decide) ?_
    refine jw_sub (lc' := [(0, _), (4, _)]) ⟨rfl, rfl, trivial⟩ ?_
    exact jl_17 hC9 hEnd (by omega) (by omega)
  · exact absurd c2 (by decide)
theorem jl_merge (hC : jl_C o k b0 xs) (hEnd : jl_End nm o k) (h1 : bw_New o μ b) (h2 : bq_At o μ (b + 984) th) (hL : μ (b + 991) = some (.inl (o.2.2.1 4, 1, .inr (.inl f)))) (hkc : kc ≤ 2000) (hks : ks ≤ 20000) : jw_X (mi_lawN nm) o k kc ks 704 [(0, .ref b0), (1, .ref b), (2, .ref (b + 984)), (3, .ref (b + 991)), (4, .int (nI 0))] [] μ (b + 992) := by
  have hC9 := hC
  obtain ⟨hX, hbl, hbA, hR⟩ := hC
  have h0 := h1.1
  have r0 := h2.1
  refine jw_aload_n (pc' := 705) jd_law_704 rfl rfl rfl ?_
  refine jw_aload_n (pc' := 706) jd_law_705 rfl rfl rfl ?_
  refine jw_iload (pc' := 708) jd_law_706 rfl rfl ?_
  refine jw_iconst (pc' := 709) (v := nI 1) jd_law_708 (by decide +kernel) rfl ?_
  refine jw_iadd (pc' := 710) jd_law_709 (by decide +kernel : (nI 0 : Int32) + nI 1 = nI 1) rfl ?_
  refine jw_sld (pc' := 711) hX hbl hbA jd_law_710 (vp_in_nI (n := 1) (by omega) (by omega)) (congrArg xs (nI_clamp (n := 1) (by omega))) rfl ?_
  refine jw_aload_n (pc' := 712) jd_law_711 rfl rfl rfl ?_
  refine jw_callSH (pc' := 715) (n := 3) hR (bh_merge h1 hL (by omega) (xs 1)) ⟨jq_766, jq_765, jq_54, by decide +kernel, by decide +kernel, by decide +kernel⟩ jq_764 jd_law_712 rfl rfl (Nat.le_of_ble_eq_true rfl) (by omega) (by decide) (by omega) (by omega) rfl (fun v μ s9 q9 hle => ?_)
  obtain ⟨rfl, ⟨g, hL, hg⟩, f8⟩ := q9
  have h2 := h2.keep (fun z z1 z2 => f8 z (by omega) (by omega))
  have r0 := h2.1
  refine jw_istore (pc' := 717) (lc' := [(0, _), (1, _), (2, _), (3, _), (4, _), (5, _)]) jd_law_715 (Nat.le_of_ble_eq_true rfl) ⟨rfl, rfl, rfl, rfl, rfl, rfl, trivial⟩ rfl ?_
  refine jw_aload_n (pc' := 718) jd_law_717 rfl rfl rfl ?_
  refine jw_aload_n (pc' := 719) jd_law_718 rfl rfl rfl ?_
  refine jw_iload (pc' := 721) jd_law_719 rfl rfl ?_
  refine jw_iconst (pc' := 722) (v := nI 1) jd_law_721 (by decide +kernel) rfl ?_
  refine jw_iadd (pc' := 723) jd_law_722 (by decide +kernel : (nI 0 : Int32) + nI 1 = nI 1) rfl ?_
  refine jw_sld (pc' := 724) hX hbl hbA jd_law_723 (vp_in_nI (n := 1) (by omega) (by omega)) (congrArg xs (nI_clamp (n := 1) (by omega))) rfl ?_
  refine jw_callV (pc' := 727) hR (br_merge h2 (xs 1)) jm_BranchworkModel_merge jq_1333 jc_BranchworkModel jd_law_724 (by assumption) rfl rfl (Nat.le_of_ble_eq_true rfl) (by omega) (by decide) (by omega) (by omega) rfl (fun v μ s8 q8 hle8 => ?_)
  obtain ⟨⟨w, rfl, hw⟩, ⟨c', r0⟩, f7⟩ := q8
  have hL := (f7 _ (by omega) (by omega)).trans hL
  refine jw_istore (pc' := 729) (lc' := [(0, _), (1, _), (2, _), (3, _), (4, _), (5, _), (6, _)]) jd_law_727 (Nat.le_of_ble_eq_true rfl) ⟨rfl, rfl, rfl, rfl, rfl, rfl, rfl, trivial⟩ rfl ?_
  refine jw_aload_n (pc' := 730) jd_law_729 rfl rfl rfl ?_
  refine jw_callV0 (pc' := 733) hR (bq_thrown r0) jm_BranchworkModel_thrown jq_1152 jc_BranchworkModel jd_law_730 (by assumption) rfl rfl (Nat.le_of_ble_eq_true rfl) (by omega) (by decide) (by omega) (by omega) rfl rfl ?_
  refine jw_iload (pc' := 735) jd_law_733 rfl rfl ?_
  refine jw_icmp_eq (tgt := 740) (pc' := 738) jd_law_735 (by decide) rfl (fun c1 => ?_) (fun c1 => ?_)
  rotate_left
  · exact absurd rfl c1
  refine jw_iload (pc' := 742) jd_law_740 rfl rfl ?_
  refine jw_if_ne (tgt := 757) (pc' := 745) jd_law_742 (by decide) rfl (fun c2 => ?_) (fun c2 => ?_)
  · refine jw_goto (tgt := 1817) jd_law_757 (by decide) ?_
    refine jw_sub (lc' := [(0, _), (4, _)]) ⟨rfl, rfl, trivial⟩ ?_
    exact jl_17 hC9 hEnd (by omega) (by omega)
  have hn := jv_nz (kx_merge_lt (xs 1)) c2
  obtain rfl := hw hn
  refine jw_aload_n (pc' := 746) jd_law_745 rfl rfl rfl ?_
  refine jw_iconst (pc' := 747) (v := nI 0) jd_law_746 (by decide +kernel) rfl ?_
  refine jw_lald (pc' := 748) (i := 4) jd_law_747 (by assumption) rfl (vp_in_nI (n := 0) (by omega) (by omega)) ((congrArg g (nI_clamp (n := 0) (by omega))).trans (hg hn)) rfl ?_
  refine jw_iload (pc' := 750) jd_law_748 rfl rfl ?_
  refine jw_i2l (pc' := 751) jd_law_750 rfl rfl ?_
  refine jw_lcmp (pc' := 752) jd_law_751 (jv_cmp _) rfl ?_
  refine jw_if_eq (tgt := 757) (pc' := 755) jd_law_752 (by decide) rfl (fun c3 => ?_) (fun c3 => ?_)
  · refine jw_goto (tgt := 1817) jd_law_757 (by decide) ?_
    refine jw_sub (lc' := [(0, _), (4, _)]) ⟨rfl, rfl, trivial⟩ ?_
    exact jl_17 hC9 hEnd (by omega) (by omega)
  · exact absurd rfl c3
theorem jl_settle (hC : jl_C o k b0 xs) (hEnd : jl_End nm o k) (h1 : bw_New o μ b) (h2 : bq_At o μ (b + 984) th) (hL : μ (b + 991) = some (.inl (o.2.2.1 4, 1, .inr (.inl f)))) (hkc : kc ≤ 2000) (hks : ks ≤ 20000) : jw_X (mi_lawN nm) o k kc ks 760 [(0, .ref b0), (1, .ref b), (2, .ref (b + 984)), (3, .ref (b + 991)), (4, .int (nI 0))] [] μ (b + 992) := by
  have hC9 := hC
  obtain ⟨hX, hbl, hbA, hR⟩ := hC
  have h0 := h1.1
  have r0 := h2.1
  refine jw_aload_n (pc' := 761) jd_law_760 rfl rfl rfl ?_
  refine jw_aload_n (pc' := 762) jd_law_761 rfl rfl rfl ?_
  refine jw_iload (pc' := 764) jd_law_762 rfl rfl ?_
  refine jw_iconst (pc' := 765) (v := nI 1) jd_law_764 (by decide +kernel) rfl ?_
  refine jw_iadd (pc' := 766) jd_law_765 (by decide +kernel : (nI 0 : Int32) + nI 1 = nI 1) rfl ?_
  refine jw_sld (pc' := 767) hX hbl hbA jd_law_766 (vp_in_nI (n := 1) (by omega) (by omega)) (congrArg xs (nI_clamp (n := 1) (by omega))) rfl ?_
  refine jw_aload_n (pc' := 768) jd_law_767 rfl rfl rfl ?_
  refine jw_callSH (pc' := 771) (n := 3) hR (bh_settle h1 hL (by omega) (xs 1)) ⟨jq_902, jq_901, jq_54, by decide +kernel, by decide +kernel, by decide +kernel⟩ jq_900 jd_law_768 rfl rfl (Nat.le_of_ble_eq_true rfl) (by omega) (by decide) (by omega) (by omega) rfl (fun v μ s9 q9 hle => ?_)
  obtain ⟨rfl, ⟨g, hL, hg⟩, f8⟩ := q9
  have h2 := h2.keep (fun z z1 z2 => f8 z (by omega) (by omega))
  have r0 := h2.1
  refine jw_istore (pc' := 773) (lc' := [(0, _), (1, _), (2, _), (3, _), (4, _), (5, _)]) jd_law_771 (Nat.le_of_ble_eq_true rfl) ⟨rfl, rfl, rfl, rfl, rfl, rfl, trivial⟩ rfl ?_
  refine jw_aload_n (pc' := 774) jd_law_773 rfl rfl rfl ?_
  refine jw_aload_n (pc' := 775) jd_law_774 rfl rfl rfl ?_
  refine jw_iload (pc' := 777) jd_law_775 rfl rfl ?_
  refine jw_iconst (pc' := 778) (v := nI 1) jd_law_777 (by decide +kernel) rfl ?_
  refine jw_iadd (pc' := 779) jd_law_778 (by decide +kernel : (nI 0 : Int32) + nI 1 = nI 1) rfl ?_
  refine jw_sld (pc' := 780) hX hbl hbA jd_law_779 (vp_in_nI (n := 1) (by omega) (by omega)) (congrArg xs (nI_clamp (n := 1) (by omega))) rfl ?_
  refine jw_callV (pc' := 783) hR (br_settle h2 (xs 1)) jm_BranchworkModel_settle jq_1450 jc_BranchworkModel jd_law_780 (by assumption) rfl rfl (Nat.le_of_ble_eq_true rfl) (by omega) (by decide) (by omega) (by omega) rfl (fun v μ s8 q8 hle8 => ?_)
  obtain ⟨⟨w, rfl, hw⟩, ⟨c', r0⟩, f7⟩ := q8
  have hL := (f7 _ (by omega) (by omega)).trans hL
  refine jw_istore (pc' := 785) (lc' := [(0, _), (1, _), (2, _), (3, _), (4, _), (5, _), (6, _)]) jd_law_783 (Nat.le_of_ble_eq_true rfl) ⟨rfl, rfl, rfl, rfl, rfl, rfl, rfl, trivial⟩ rfl ?_
  refine jw_aload_n (pc' := 786) jd_law_785 rfl rfl rfl ?_
  refine jw_callV0 (pc' := 789) hR (bq_thrown r0) jm_BranchworkModel_thrown jq_1152 jc_BranchworkModel jd_law_786 (by assumption) rfl rfl (Nat.le_of_ble_eq_true rfl) (by omega) (by decide) (by omega) (by omega) rfl rfl ?_
  refine jw_iload (pc' := 791) jd_law_789 rfl rfl ?_
  refine jw_icmp_eq (tgt := 796) (pc' := 794) jd_law_791 (by decide) rfl (fun c1 => ?_) (fun c1 => ?_)
  rotate_left
  · exact absurd rfl c1
  refine jw_iload (pc' := 798) jd_law_796 rfl rfl ?_
  refine jw_if_ne (tgt := 813) (pc' := 801) jd_law_798 (by decide) rfl (fun c2 => ?_) (fun c2 => ?_)
  · refine jw_goto (tgt := 1817) jd_law_813 (by decide) ?_
    refine jw_sub (lc' := [(0, _), (4, _)]) ⟨rfl, rfl, trivial⟩ ?_
    exact jl_17 hC9 hEnd (by omega) (by omega)
  · exact absurd c2 (by decide)
theorem jl_many (hC : jl_C o k b0 xs) (hEnd : jl_End nm o k) (h1 : bw_New o μ b) (h2 : bq_At o μ (b + 984) th) (hL : μ (b + 991) = some (.inl (o.2.2.1 4, 1, .inr (.inl f)))) (hkc : kc ≤ 2000) (hks : ks ≤ 20000) : jw_X (mi_lawN nm) o k kc ks 829 [(0, .ref b0), (1, .ref b), (2, .ref (b + 984)), (3, .ref (b + 991)), (4, .int (nI 0))] [] μ (b + 992) := by
  have hC9 := hC
  obtain ⟨hX, hbl, hbA, hR⟩ := hC
  have h0 := h1.1
  have r0 := h2.1
  refine jw_aload_n (pc' := 830) jd_law_829 rfl rfl rfl ?_
  refine jw_aload_n (pc' := 831) jd_law_830 rfl rfl rfl ?_
  refine jw_iload (pc' := 833) jd_law_831 rfl rfl ?_
  refine jw_iconst (pc' := 834) (v := nI 1) jd_law_833 (by decide +kernel) rfl ?_
  refine jw_iadd (pc' := 835) jd_law_834 (by decide +kernel : (nI 0 : Int32) + nI 1 = nI 1) rfl ?_
  refine jw_sld (pc' := 836) hX hbl hbA jd_law_835 (vp_in_nI (n := 1) (by omega) (by omega)) (congrArg xs (nI_clamp (n := 1) (by omega))) rfl ?_
  refine jw_aload_n (pc' := 837) jd_law_836 rfl rfl rfl ?_
  refine jw_callSH (pc' := 840) (n := 3) hR (bh_many h1 hL (by omega) (xs 1)) ⟨jq_919, jq_918, jq_54, by decide +kernel, by decide +kernel, by decide +kernel⟩ jq_917 jd_law_837 rfl rfl (Nat.le_of_ble_eq_true rfl) (by omega) (by decide) (by omega) (by omega) rfl (fun v μ s9 q9 hle => ?_)
  obtain ⟨rfl, ⟨g, hL, hg⟩, f8⟩ := q9
  have h2 := h2.keep (fun z z1 z2 => f8 z (by omega) (by omega))
  have r0 := h2.1
  refine jw_istore (pc' := 842) (lc' := [(0, _), (1, _), (2, _), (3, _), (4, _), (5, _)]) jd_law_840 (Nat.le_of_ble_eq_true rfl) ⟨rfl, rfl, rfl, rfl, rfl, rfl, trivial⟩ rfl ?_
  refine jw_aload_n (pc' := 843) jd_law_842 rfl rfl rfl ?_
  refine jw_aload_n (pc' := 844) jd_law_843 rfl rfl rfl ?_
  refine jw_iload (pc' := 846) jd_law_844 rfl rfl ?_
  refine jw_iconst (pc' := 847) (v := nI 1) jd_law_846 (by decide +kernel) rfl ?_
  refine jw_iadd (pc' := 848) jd_law_847 (by decide +kernel : (nI 0 : Int32) + nI 1 = nI 1) rfl ?_
  refine jw_sld (pc' := 849) hX hbl hbA jd_law_848 (vp_in_nI (n := 1) (by omega) (by omega)) (congrArg xs (nI_clamp (n := 1) (by omega))) rfl ?_
  refine jw_callV (pc' := 852) hR (br_many h2 (by omega) (xs 1)) jm_BranchworkModel_many jq_1491 jc_BranchworkModel jd_law_849 (by assumption) rfl rfl (Nat.le_of_ble_eq_true rfl) (by omega) (by decide) (by omega) (by omega) rfl (fun v μ s8 q8 hle8 => ?_)
  obtain ⟨⟨w, rfl, hw⟩, ⟨c', r0⟩, f7⟩ := q8
  have hL := (f7 _ (by omega) (by omega)).trans hL
  refine jw_istore (pc' := 854) (lc' := [(0, _), (1, _), (2, _), (3, _), (4, _), (5, _), (6, _)]) jd_law_852 (Nat.le_of_ble_eq_true rfl) ⟨rfl, rfl, rfl, rfl, rfl, rfl, rfl, trivial⟩ rfl ?_
  refine jw_aload_n (pc' := 855) jd_law_854 rfl rfl rfl ?_
  refine jw_callV0 (pc' := 858) hR (bq_thrown r0) jm_BranchworkModel_thrown jq_1152 jc_BranchworkModel jd_law_855 (by assumption) rfl rfl (Nat.le_of_ble_eq_true rfl) (by omega) (by decide) (by omega) (by omega) rfl rfl ?_
  refine jw_iload (pc' := 860) jd_law_858 rfl rfl ?_
  refine jw_icmp_eq (tgt := 865) (pc' := 863) jd_law_860 (by decide) rfl (fun c1 => ?_) (fun c1 => ?_)
  rotate_left
  · exact absurd rfl c1
  refine jw_iload (pc' := 867) jd_law_865 rfl rfl ?_
  refine jw_if_ne (tgt := 882) (pc' := 870) jd_law_867 (by decide) rfl (fun c2 => ?_) (fun c2 => ?_)
  · refine jw_goto (tgt := 1817) jd_law_882 (by decide) ?_
    refine jw_sub (lc' := [(0, _), (4, _)]) ⟨rfl, rfl, trivial⟩ ?_
    exact jl_17 hC9 hEnd (by omega) (by omega)
  have hn := jv_nz (kx_small_lt 5 (xs 1)) c2
  obtain rfl := hw hn
  refine jw_aload_n (pc' := 871) jd_law_870 rfl rfl rfl ?_
  refine jw_iconst (pc' := 872) (v := nI 0) jd_law_871 (by decide +kernel) rfl ?_
  refine jw_lald (pc' := 873) (i := 4) jd_law_872 (by assumption) rfl (vp_in_nI (n := 0) (by omega) (by omega)) ((congrArg g (nI_clamp (n := 0) (by omega))).trans (hg hn)) rfl ?_
  refine jw_iload (pc' := 875) jd_law_873 rfl rfl ?_
  refine jw_i2l (pc' := 876) jd_law_875 rfl rfl ?_
  refine jw_lcmp (pc' := 877) jd_law_876 (jv_cmp _) rfl ?_
  refine jw_if_eq (tgt := 882) (pc' := 880) jd_law_877 (by decide) rfl (fun c3 => ?_) (fun c3 => ?_)
  · refine jw_goto (tgt := 1817) jd_law_882 (by decide) ?_
    refine jw_sub (lc' := [(0, _), (4, _)]) ⟨rfl, rfl, trivial⟩ ?_
    exact jl_17 hC9 hEnd (by omega) (by omega)
  · exact absurd rfl c3
theorem jl_now (hC : jl_C o k b0 xs) (hEnd : jl_End nm o k) (h1 : bw_New o μ b) (h2 : bq_At o μ (b + 984) th) (hL : μ (b + 991) = some (.inl (o.2.2.1 4, 1, .inr (.inl f)))) (hkc : kc ≤ 2000) (hks : ks ≤ 20000) : jw_X (mi_lawN nm) o k kc ks 885 [(0, .ref b0), (1, .ref b), (2, .ref (b + 984)), (3, .ref (b + 991)), (4, .int (nI 0))] [] μ (b + 992) := by
  have hC9 := hC
  obtain ⟨hX, hbl, hbA, hR⟩ := hC
  have h0 := h1.1
  have r0 := h2.1
  refine jw_aload_n (pc' := 886) jd_law_885 rfl rfl rfl ?_
  refine jw_aload_n (pc' := 887) jd_law_886 rfl rfl rfl ?_
  refine jw_iload (pc' := 889) jd_law_887 rfl rfl ?_
  refine jw_iconst (pc' := 890) (v := nI 1) jd_law_889 (by decide +kernel) rfl ?_
  refine jw_iadd (pc' := 891) jd_law_890 (by decide +kernel : (nI 0 : Int32) + nI 1 = nI 1) rfl ?_
  refine jw_sld (pc' := 892) hX hbl hbA jd_law_891 (vp_in_nI (n := 1) (by omega) (by omega)) (congrArg xs (nI_clamp (n := 1) (by omega))) rfl ?_
  refine jw_aload_n (pc' := 893) jd_law_892 rfl rfl rfl ?_
  refine jw_callSH (pc' := 896) (n := 3) hR (bh_now h1 hL (by omega) (xs 1)) ⟨jq_923, jq_922, jq_54, by decide +kernel, by decide +kernel, by decide +kernel⟩ jq_921 jd_law_893 rfl rfl (Nat.le_of_ble_eq_true rfl) (by omega) (by decide) (by omega) (by omega) rfl (fun v μ s9 q9 hle => ?_)
  obtain ⟨rfl, ⟨g, hL, hg⟩, f8⟩ := q9
  have h2 := h2.keep (fun z z1 z2 => f8 z (by omega) (by omega))
  have r0 := h2.1
  refine jw_istore (pc' := 898) (lc' := [(0, _), (1, _), (2, _), (3, _), (4, _), (5, _)]) jd_law_896 (Nat.le_of_ble_eq_true rfl) ⟨rfl, rfl, rfl, rfl, rfl, rfl, trivial⟩ rfl ?_
  refine jw_aload_n (pc' := 899) jd_law_898 rfl rfl rfl ?_
  refine jw_aload_n (pc' := 900) jd_law_899 rfl rfl rfl ?_
  refine jw_iload (pc' := 902) jd_law_900 rfl rfl ?_
  refine jw_iconst (pc' := 903) (v := nI 1) jd_law_902 (by decide +kernel) rfl ?_
  refine jw_iadd (pc' := 904) jd_law_903 (by decide +kernel : (nI 0 : Int32) + nI 1 = nI 1) rfl ?_
  refine jw_sld (pc' := 905) hX hbl hbA jd_law_904 (vp_in_nI (n := 1) (by omega) (by omega)) (congrArg xs (nI_clamp (n := 1) (by omega))) rfl ?_
  refine jw_callV (pc' := 908) hR (br_now h2 (xs 1)) jm_BranchworkModel_now jq_1499 jc_BranchworkModel jd_law_905 (by assumption) rfl rfl (Nat.le_of_ble_eq_true rfl) (by omega) (by decide) (by omega) (by omega) rfl (fun v μ s8 q8 hle8 => ?_)
  obtain ⟨⟨w, rfl, hw⟩, ⟨c', r0⟩, f7⟩ := q8
  have hL := (f7 _ (by omega) (by omega)).trans hL
  refine jw_istore (pc' := 910) (lc' := [(0, _), (1, _), (2, _), (3, _), (4, _), (5, _), (6, _)]) jd_law_908 (Nat.le_of_ble_eq_true rfl) ⟨rfl, rfl, rfl, rfl, rfl, rfl, rfl, trivial⟩ rfl ?_
  refine jw_aload_n (pc' := 911) jd_law_910 rfl rfl rfl ?_
  refine jw_callV0 (pc' := 914) hR (bq_thrown r0) jm_BranchworkModel_thrown jq_1152 jc_BranchworkModel jd_law_911 (by assumption) rfl rfl (Nat.le_of_ble_eq_true rfl) (by omega) (by decide) (by omega) (by omega) rfl rfl ?_
  refine jw_iload (pc' := 916) jd_law_914 rfl rfl ?_
  refine jw_icmp_eq (tgt := 921) (pc' := 919) jd_law_916 (by decide) rfl (fun c1 => ?_) (fun c1 => ?_)
  rotate_left
  · exact absurd rfl c1
  refine jw_iload (pc' := 923) jd_law_921 rfl rfl ?_
  refine jw_if_ne (tgt := 938) (pc' := 926) jd_law_923 (by decide) rfl (fun c2 => ?_) (fun c2 => ?_)
  · refine jw_goto (tgt := 1817) jd_law_938 (by decide) ?_
    refine jw_sub (lc' := [(0, _), (4, _)]) ⟨rfl, rfl, trivial⟩ ?_
    exact jl_17 hC9 hEnd (by omega) (by omega)
  have hn := jv_nz (kx_small_lt 2 (xs 1)) c2
  obtain rfl := hw hn
  refine jw_aload_n (pc' := 927) jd_law_926 rfl rfl rfl ?_
  refine jw_iconst (pc' := 928) (v := nI 0) jd_law_927 (by decide +kernel) rfl ?_
  refine jw_lald (pc' := 929) (i := 4) jd_law_928 (by assumption) rfl (vp_in_nI (n := 0) (by omega) (by omega)) ((congrArg g (nI_clamp (n := 0) (by omega))).trans (hg hn)) rfl ?_
  refine jw_iload (pc' := 931) jd_law_929 rfl rfl ?_
  refine jw_i2l (pc' := 932) jd_law_931 rfl rfl ?_
  refine jw_lcmp (pc' := 933) jd_law_932 (jv_cmp _) rfl ?_
  refine jw_if_eq (tgt := 938) (pc' := 936) jd_law_933 (by decide) rfl (fun c3 => ?_) (fun c3 => ?_)
  · refine jw_goto (tgt := 1817) jd_law_938 (by decide) ?_
    refine jw_sub (lc' := [(0, _), (4, _)]) ⟨rfl, rfl, trivial⟩ ?_
    exact jl_17 hC9 hEnd (by omega) (by omega)
  · exact absurd rfl c3
theorem jl_at (hC : jl_C o k b0 xs) (hEnd : jl_End nm o k) (h1 : bw_New o μ b) (h2 : bq_At o μ (b + 984) th) (hL : μ (b + 991) = some (.inl (o.2.2.1 4, 1, .inr (.inl f)))) (hkc : kc ≤ 2000) (hks : ks ≤ 20000) : jw_X (mi_lawN nm) o k kc ks 941 [(0, .ref b0), (1, .ref b), (2, .ref (b + 984)), (3, .ref (b + 991)), (4, .int (nI 0))] [] μ (b + 992) := by
  have hC9 := hC
  obtain ⟨hX, hbl, hbA, hR⟩ := hC
  have h0 := h1.1
  have r0 := h2.1
  refine jw_aload_n (pc' := 942) jd_law_941 rfl rfl rfl ?_
  refine jw_aload_n (pc' := 943) jd_law_942 rfl rfl rfl ?_
  refine jw_iload (pc' := 945) jd_law_943 rfl rfl ?_
  refine jw_iconst (pc' := 946) (v := nI 1) jd_law_945 (by decide +kernel) rfl ?_
  refine jw_iadd (pc' := 947) jd_law_946 (by decide +kernel : (nI 0 : Int32) + nI 1 = nI 1) rfl ?_
  refine jw_sld (pc' := 948) hX hbl hbA jd_law_947 (vp_in_nI (n := 1) (by omega) (by omega)) (congrArg xs (nI_clamp (n := 1) (by omega))) rfl ?_
  refine jw_aload_n (pc' := 949) jd_law_948 rfl rfl rfl ?_
  refine jw_callSH (pc' := 952) (n := 3) hR (bh_at h1 hL (by omega) (xs 1)) ⟨jq_927, jq_926, jq_54, by decide +kernel, by decide +kernel, by decide +kernel⟩ jq_925 jd_law_949 rfl rfl (Nat.le_of_ble_eq_true rfl) (by omega) (by decide) (by omega) (by omega) rfl (fun v μ s9 q9 hle => ?_)
  obtain ⟨rfl, ⟨g, hL, hg⟩, f8⟩ := q9
  have h2 := h2.keep (fun z z1 z2 => f8 z (by omega) (by omega))
  have r0 := h2.1
  refine jw_istore (pc' := 954) (lc' := [(0, _), (1, _), (2, _), (3, _), (4, _), (5, _)]) jd_law_952 (Nat.le_of_ble_eq_true rfl) ⟨rfl, rfl, rfl, rfl, rfl, rfl, trivial⟩ rfl ?_
  refine jw_aload_n (pc' := 955) jd_law_954 rfl rfl rfl ?_
  refine jw_aload_n (pc' := 956) jd_law_955 rfl rfl rfl ?_
  refine jw_iload (pc' := 958) jd_law_956 rfl rfl ?_
  refine jw_iconst (pc' := 959) (v := nI 1) jd_law_958 (by decide +kernel) rfl ?_
  refine jw_iadd (pc' := 960) jd_law_959 (by decide +kernel : (nI 0 : Int32) + nI 1 = nI 1) rfl ?_
  refine jw_sld (pc' := 961) hX hbl hbA jd_law_960 (vp_in_nI (n := 1) (by omega) (by omega)) (congrArg xs (nI_clamp (n := 1) (by omega))) rfl ?_
  refine jw_callV (pc' := 964) hR (br_at h2 (xs 1)) jm_BranchworkModel_at jq_1510 jc_BranchworkModel jd_law_961 (by assumption) rfl rfl (Nat.le_of_ble_eq_true rfl) (by omega) (by decide) (by omega) (by omega) rfl (fun v μ s8 q8 hle8 => ?_)
  obtain ⟨⟨w, rfl, hw⟩, ⟨c', r0⟩, f7⟩ := q8
  have hL := (f7 _ (by omega) (by omega)).trans hL
  refine jw_istore (pc' := 966) (lc' := [(0, _), (1, _), (2, _), (3, _), (4, _), (5, _), (6, _)]) jd_law_964 (Nat.le_of_ble_eq_true rfl) ⟨rfl, rfl, rfl, rfl, rfl, rfl, rfl, trivial⟩ rfl ?_
  refine jw_aload_n (pc' := 967) jd_law_966 rfl rfl rfl ?_
  refine jw_callV0 (pc' := 970) hR (bq_thrown r0) jm_BranchworkModel_thrown jq_1152 jc_BranchworkModel jd_law_967 (by assumption) rfl rfl (Nat.le_of_ble_eq_true rfl) (by omega) (by decide) (by omega) (by omega) rfl rfl ?_
  refine jw_iload (pc' := 972) jd_law_970 rfl rfl ?_
  refine jw_icmp_eq (tgt := 977) (pc' := 975) jd_law_972 (by decide) rfl (fun c1 => ?_) (fun c1 => ?_)
  rotate_left
  · exact absurd rfl c1
  refine jw_iload (pc' := 979) jd_law_977 rfl rfl ?_
  refine jw_if_ne (tgt := 994) (pc' := 982) jd_law_979 (by decide) rfl (fun c2 => ?_) (fun c2 => ?_)
  · refine jw_goto (tgt := 1817) jd_law_994 (by decide) ?_
    refine jw_sub (lc' := [(0, _), (4, _)]) ⟨rfl, rfl, trivial⟩ ?_
    exact jl_17 hC9 hEnd (by omega) (by omega)
  have hn := jv_nz (kx_z_lt (xs 1)) c2
  obtain rfl := hw hn
  refine jw_aload_n (pc' := 983) jd_law_982 rfl rfl rfl ?_
  refine jw_iconst (pc' := 984) (v := nI 0) jd_law_983 (by decide +kernel) rfl ?_
  refine jw_lald (pc' := 985) (i := 4) jd_law_984 (by assumption) rfl (vp_in_nI (n := 0) (by omega) (by omega)) ((congrArg g (nI_clamp (n := 0) (by omega))).trans (hg hn)) rfl ?_
  refine jw_iload (pc' := 987) jd_law_985 rfl rfl ?_
  refine jw_i2l (pc' := 988) jd_law_987 rfl rfl ?_
  refine jw_lcmp (pc' := 989) jd_law_988 (jv_cmp _) rfl ?_
  refine jw_if_eq (tgt := 994) (pc' := 992) jd_law_989 (by decide) rfl (fun c3 => ?_) (fun c3 => ?_)
  · refine jw_goto (tgt := 1817) jd_law_994 (by decide) ?_
    refine jw_sub (lc' := [(0, _), (4, _)]) ⟨rfl, rfl, trivial⟩ ?_
    exact jl_17 hC9 hEnd (by omega) (by omega)
  · exact absurd rfl c3
theorem jl_ofCommit (hC : jl_C o k b0 xs) (hEnd : jl_End nm o k) (h1 : bw_New o μ b) (h2 : bq_At o μ (b + 984) th) (hL : μ (b + 991) = some (.inl (o.2.2.1 4, 1, .inr (.inl f)))) (hkc : kc ≤ 2000) (hks : ks ≤ 20000) : jw_X (mi_lawN nm) o k kc ks 997 [(0, .ref b0), (1, .ref b), (2, .ref (b + 984)), (3, .ref (b + 991)), (4, .int (nI 0))] [] μ (b + 992) := by
  have hC9 := hC
  obtain ⟨hX, hbl, hbA, hR⟩ := hC
  have h0 := h1.1
  have r0 := h2.1
  refine jw_aload_n (pc' := 998) jd_law_997 rfl rfl rfl ?_
  refine jw_aload_n (pc' := 999) jd_law_998 rfl rfl rfl ?_
  refine jw_iload (pc' := 1001) jd_law_999 rfl rfl ?_
  refine jw_iconst (pc' := 1002) (v := nI 1) jd_law_1001 (by decide +kernel) rfl ?_
  refine jw_iadd (pc' := 1003) jd_law_1002 (by decide +kernel : (nI 0 : Int32) + nI 1 = nI 1) rfl ?_
  refine jw_sld (pc' := 1004) hX hbl hbA jd_law_1003 (vp_in_nI (n := 1) (by omega) (by omega)) (congrArg xs (nI_clamp (n := 1) (by omega))) rfl ?_
  refine jw_aload_n (pc' := 1005) jd_law_1004 rfl rfl rfl ?_
  refine jw_iload (pc' := 1007) jd_law_1005 rfl rfl ?_
  refine jw_iconst (pc' := 1008) (v := nI 2) jd_law_1007 (by decide +kernel) rfl ?_
  refine jw_iadd (pc' := 1009) jd_law_1008 (by decide +kernel : (nI 0 : Int32) + nI 2 = nI 2) rfl ?_
  refine jw_sld (pc' := 1010) hX hbl hbA jd_law_1009 (vp_in_nI (n := 2) (by omega) (by omega)) (congrArg xs (nI_clamp (n := 2) (by omega))) rfl ?_
  refine jw_aload_n (pc' := 1011) jd_law_1010 rfl rfl rfl ?_
  refine jw_callSH (pc' := 1014) (n := 4) hR (bh_ofCommit h1 hL (by omega) (xs 1) (xs 2)) ⟨jq_931, jq_930, jq_54, by decide +kernel, by decide +kernel, by decide +kernel⟩ jq_929 jd_law_1011 rfl rfl (Nat.le_of_ble_eq_true rfl) (by omega) (by decide) (by omega) (by omega) rfl (fun v μ s9 q9 hle => ?_)
  obtain ⟨rfl, ⟨g, hL, hg⟩, f8⟩ := q9
  have h2 := h2.keep (fun z z1 z2 => f8 z (by omega) (by omega))
  have r0 := h2.1
  refine jw_istore (pc' := 1016) (lc' := [(0, _), (1, _), (2, _), (3, _), (4, _), (5, _)]) jd_law_1014 (Nat.le_of_ble_eq_true rfl) ⟨rfl, rfl, rfl, rfl, rfl, rfl, trivial⟩ rfl ?_
  refine jw_aload_n (pc' := 1017) jd_law_1016 rfl rfl rfl ?_
  refine jw_aload_n (pc' := 1018) jd_law_1017 rfl rfl rfl ?_
  refine jw_iload (pc' := 1020) jd_law_1018 rfl rfl ?_
  refine jw_iconst (pc' := 1021) (v := nI 1) jd_law_1020 (by decide +kernel) rfl ?_
  refine jw_iadd (pc' := 1022) jd_law_1021 (by decide +kernel : (nI 0 : Int32) + nI 1 = nI 1) rfl ?_
  refine jw_sld (pc' := 1023) hX hbl hbA jd_law_1022 (vp_in_nI (n := 1) (by omega) (by omega)) (congrArg xs (nI_clamp (n := 1) (by omega))) rfl ?_
  refine jw_aload_n (pc' := 1024) jd_law_1023 rfl rfl rfl ?_
  refine jw_iload (pc' := 1026) jd_law_1024 rfl rfl ?_
  refine jw_iconst (pc' := 1027) (v := nI 2) jd_law_1026 (by decide +kernel) rfl ?_
  refine jw_iadd (pc' := 1028) jd_law_1027 (by decide +kernel : (nI 0 : Int32) + nI 2 = nI 2) rfl ?_
  refine jw_sld (pc' := 1029) hX hbl hbA jd_law_1028 (vp_in_nI (n := 2) (by omega) (by omega)) (congrArg xs (nI_clamp (n := 2) (by omega))) rfl ?_
  refine jw_callV (pc' := 1032) hR (br_ofCommit h2 (xs 1) (xs 2)) jm_BranchworkModel_ofCommit jq_1514 jc_BranchworkModel jd_law_1029 (by assumption) rfl rfl (Nat.le_of_ble_eq_true rfl) (by omega) (by decide) (by omega) (by omega) rfl (fun v μ s8 q8 hle8 => ?_)
  obtain ⟨⟨w, rfl, hw⟩, ⟨c', r0⟩, f7⟩ := q8
  have hL := (f7 _ (by omega) (by omega)).trans hL
  refine jw_istore (pc' := 1034) (lc' := [(0, _), (1, _), (2, _), (3, _), (4, _), (5, _), (6, _)]) jd_law_1032 (Nat.le_of_ble_eq_true rfl) ⟨rfl, rfl, rfl, rfl, rfl, rfl, rfl, trivial⟩ rfl ?_
  refine jw_aload_n (pc' := 1035) jd_law_1034 rfl rfl rfl ?_
  refine jw_callV0 (pc' := 1038) hR (bq_thrown r0) jm_BranchworkModel_thrown jq_1152 jc_BranchworkModel jd_law_1035 (by assumption) rfl rfl (Nat.le_of_ble_eq_true rfl) (by omega) (by decide) (by omega) (by omega) rfl rfl ?_
  refine jw_iload (pc' := 1040) jd_law_1038 rfl rfl ?_
  refine jw_icmp_eq (tgt := 1045) (pc' := 1043) jd_law_1040 (by decide) rfl (fun c1 => ?_) (fun c1 => ?_)
  rotate_left
  · exact absurd rfl c1
  refine jw_iload (pc' := 1047) jd_law_1045 rfl rfl ?_
  refine jw_if_ne (tgt := 1062) (pc' := 1050) jd_law_1047 (by decide) rfl (fun c2 => ?_) (fun c2 => ?_)
  · refine jw_goto (tgt := 1817) jd_law_1062 (by decide) ?_
    refine jw_sub (lc' := [(0, _), (4, _)]) ⟨rfl, rfl, trivial⟩ ?_
    exact jl_17 hC9 hEnd (by omega) (by omega)
  · exact absurd c2 (by decide)
theorem jl_line (hC : jl_C o k b0 xs) (hEnd : jl_End nm o k) (h1 : bw_New o μ b) (h2 : bq_At o μ (b + 984) th) (hL : μ (b + 991) = some (.inl (o.2.2.1 4, 1, .inr (.inl f)))) (hkc : kc ≤ 2000) (hks : ks ≤ 20000) : jw_X (mi_lawN nm) o k kc ks 1065 [(0, .ref b0), (1, .ref b), (2, .ref (b + 984)), (3, .ref (b + 991)), (4, .int (nI 0))] [] μ (b + 992) := by
  have hC9 := hC
  obtain ⟨hX, hbl, hbA, hR⟩ := hC
  have h0 := h1.1
  have r0 := h2.1
  refine jw_aload_n (pc' := 1066) jd_law_1065 rfl rfl rfl ?_
  refine jw_aload_n (pc' := 1067) jd_law_1066 rfl rfl rfl ?_
  refine jw_iload (pc' := 1069) jd_law_1067 rfl rfl ?_
  refine jw_iconst (pc' := 1070) (v := nI 1) jd_law_1069 (by decide +kernel) rfl ?_
  refine jw_iadd (pc' := 1071) jd_law_1070 (by decide +kernel : (nI 0 : Int32) + nI 1 = nI 1) rfl ?_
  refine jw_sld (pc' := 1072) hX hbl hbA jd_law_1071 (vp_in_nI (n := 1) (by omega) (by omega)) (congrArg xs (nI_clamp (n := 1) (by omega))) rfl ?_
  refine jw_aload_n (pc' := 1073) jd_law_1072 rfl rfl rfl ?_
  refine jw_iload (pc' := 1075) jd_law_1073 rfl rfl ?_
  refine jw_iconst (pc' := 1076) (v := nI 2) jd_law_1075 (by decide +kernel) rfl ?_
  refine jw_iadd (pc' := 1077) jd_law_1076 (by decide +kernel : (nI 0 : Int32) + nI 2 = nI 2) rfl ?_
  refine jw_sld (pc' := 1078) hX hbl hbA jd_law_1077 (vp_in_nI (n := 2) (by omega) (by omega)) (congrArg xs (nI_clamp (n := 2) (by omega))) rfl ?_
  refine jw_aload_n (pc' := 1079) jd_law_1078 rfl rfl rfl ?_
  refine jw_iload (pc' := 1081) jd_law_1079 rfl rfl ?_
  refine jw_iconst (pc' := 1082) (v := nI 3) jd_law_1081 (by decide +kernel) rfl ?_
  refine jw_iadd (pc' := 1083) jd_law_1082 (by decide +kernel : (nI 0 : Int32) + nI 3 = nI 3) rfl ?_
  refine jw_sld (pc' := 1084) hX hbl hbA jd_law_1083 (vp_in_nI (n := 3) (by omega) (by omega)) (congrArg xs (nI_clamp (n := 3) (by omega))) rfl ?_
  refine jw_aload_n (pc' := 1085) jd_law_1084 rfl rfl rfl ?_
  refine jw_callSH (pc' := 1088) (n := 5) hR (bh_line h1 hL (by omega) (xs 1) (xs 2) (xs 3)) ⟨jq_935, jq_934, jq_54, by decide +kernel, by decide +kernel, by decide +kernel⟩ jq_933 jd_law_1085 rfl rfl (Nat.le_of_ble_eq_true rfl) (by omega) (by decide) (by omega) (by omega) rfl (fun v μ s9 q9 hle => ?_)
  obtain ⟨rfl, ⟨g, hL, hg⟩, f8⟩ := q9
  have h2 := h2.keep (fun z z1 z2 => f8 z (by omega) (by omega))
  have r0 := h2.1
  refine jw_istore (pc' := 1090) (lc' := [(0, _), (1, _), (2, _), (3, _), (4, _), (5, _)]) jd_law_1088 (Nat.le_of_ble_eq_true rfl) ⟨rfl, rfl, rfl, rfl, rfl, rfl, trivial⟩ rfl ?_
  refine jw_aload_n (pc' := 1091) jd_law_1090 rfl rfl rfl ?_
  refine jw_aload_n (pc' := 1092) jd_law_1091 rfl rfl rfl ?_
  refine jw_iload (pc' := 1094) jd_law_1092 rfl rfl ?_
  refine jw_iconst (pc' := 1095) (v := nI 1) jd_law_1094 (by decide +kernel) rfl ?_
  refine jw_iadd (pc' := 1096) jd_law_1095 (by decide +kernel : (nI 0 : Int32) + nI 1 = nI 1) rfl ?_
  refine jw_sld (pc' := 1097) hX hbl hbA jd_law_1096 (vp_in_nI (n := 1) (by omega) (by omega)) (congrArg xs (nI_clamp (n := 1) (by omega))) rfl ?_
  refine jw_aload_n (pc' := 1098) jd_law_1097 rfl rfl rfl ?_
  refine jw_iload (pc' := 1100) jd_law_1098 rfl rfl ?_
  refine jw_iconst (pc' := 1101) (v := nI 2) jd_law_1100 (by decide +kernel) rfl ?_
  refine jw_iadd (pc' := 1102) jd_law_1101 (by decide +kernel : (nI 0 : Int32) + nI 2 = nI 2) rfl ?_
  refine jw_sld (pc' := 1103) hX hbl hbA jd_law_1102 (vp_in_nI (n := 2) (by omega) (by omega)) (congrArg xs (nI_clamp (n := 2) (by omega))) rfl ?_
  refine jw_aload_n (pc' := 1104) jd_law_1103 rfl rfl rfl ?_
  refine jw_iload (pc' := 1106) jd_law_1104 rfl rfl ?_
  refine jw_iconst (pc' := 1107) (v := nI 3) jd_law_1106 (by decide +kernel) rfl ?_
  refine jw_iadd (pc' := 1108) jd_law_1107 (by decide +kernel : (nI 0 : Int32) + nI 3 = nI 3) rfl ?_
  refine jw_sld (pc' := 1109) hX hbl hbA jd_law_1108 (vp_in_nI (n := 3) (by omega) (by omega)) (congrArg xs (nI_clamp (n := 3) (by omega))) rfl ?_
  refine jw_callV (pc' := 1112) hR (br_line h2 (xs 1) (xs 2) (xs 3)) jm_BranchworkModel_line jq_1522 jc_BranchworkModel jd_law_1109 (by assumption) rfl rfl (Nat.le_of_ble_eq_true rfl) (by omega) (by decide) (by omega) (by omega) rfl (fun v μ s8 q8 hle8 => ?_)
  obtain ⟨⟨w, rfl, hw⟩, ⟨c', r0⟩, f7⟩ := q8
  have hL := (f7 _ (by omega) (by omega)).trans hL
  refine jw_istore (pc' := 1114) (lc' := [(0, _), (1, _), (2, _), (3, _), (4, _), (5, _), (6, _)]) jd_law_1112 (Nat.le_of_ble_eq_true rfl) ⟨rfl, rfl, rfl, rfl, rfl, rfl, rfl, trivial⟩ rfl ?_
  refine jw_aload_n (pc' := 1115) jd_law_1114 rfl rfl rfl ?_
  refine jw_callV0 (pc' := 1118) hR (bq_thrown r0) jm_BranchworkModel_thrown jq_1152 jc_BranchworkModel jd_law_1115 (by assumption) rfl rfl (Nat.le_of_ble_eq_true rfl) (by omega) (by decide) (by omega) (by omega) rfl rfl ?_
  refine jw_iload (pc' := 1120) jd_law_1118 rfl rfl ?_
  refine jw_icmp_eq (tgt := 1125) (pc' := 1123) jd_law_1120 (by decide) rfl (fun c1 => ?_) (fun c1 => ?_)
  rotate_left
  · exact absurd rfl c1
  refine jw_iload (pc' := 1127) jd_law_1125 rfl rfl ?_
  refine jw_if_ne (tgt := 1142) (pc' := 1130) jd_law_1127 (by decide) rfl (fun c2 => ?_) (fun c2 => ?_)
  · refine jw_goto (tgt := 1817) jd_law_1142 (by decide) ?_
    refine jw_sub (lc' := [(0, _), (4, _)]) ⟨rfl, rfl, trivial⟩ ?_
    exact jl_17 hC9 hEnd (by omega) (by omega)
  have hn := jv_nz (kx_show_lt (xs 1) (xs 2)) c2
  obtain rfl := hw hn
  refine jw_aload_n (pc' := 1131) jd_law_1130 rfl rfl rfl ?_
  refine jw_iconst (pc' := 1132) (v := nI 0) jd_law_1131 (by decide +kernel) rfl ?_
  refine jw_lald (pc' := 1133) (i := 4) jd_law_1132 (by assumption) rfl (vp_in_nI (n := 0) (by omega) (by omega)) ((congrArg g (nI_clamp (n := 0) (by omega))).trans (hg hn)) rfl ?_
  refine jw_iload (pc' := 1135) jd_law_1133 rfl rfl ?_
  refine jw_i2l (pc' := 1136) jd_law_1135 rfl rfl ?_
  refine jw_lcmp (pc' := 1137) jd_law_1136 (jv_cmp _) rfl ?_
  refine jw_if_eq (tgt := 1142) (pc' := 1140) jd_law_1137 (by decide) rfl (fun c3 => ?_) (fun c3 => ?_)
  · refine jw_goto (tgt := 1817) jd_law_1142 (by decide) ?_
    refine jw_sub (lc' := [(0, _), (4, _)]) ⟨rfl, rfl, trivial⟩ ?_
    exact jl_17 hC9 hEnd (by omega) (by omega)
  · exact absurd rfl c3
theorem jl_size (hC : jl_C o k b0 xs) (hEnd : jl_End nm o k) (h1 : bw_New o μ b) (h2 : bq_At o μ (b + 984) th) (hL : μ (b + 991) = some (.inl (o.2.2.1 4, 1, .inr (.inl f)))) (hkc : kc ≤ 2000) (hks : ks ≤ 20000) : jw_X (mi_lawN nm) o k kc ks 1145 [(0, .ref b0), (1, .ref b), (2, .ref (b + 984)), (3, .ref (b + 991)), (4, .int (nI 0))] [] μ (b + 992) := by
  have hC9 := hC
  obtain ⟨hX, hbl, hbA, hR⟩ := hC
  have h0 := h1.1
  have r0 := h2.1
  refine jw_aload_n (pc' := 1146) jd_law_1145 rfl rfl rfl ?_
  refine jw_aload_n (pc' := 1147) jd_law_1146 rfl rfl rfl ?_
  refine jw_iload (pc' := 1149) jd_law_1147 rfl rfl ?_
  refine jw_iconst (pc' := 1150) (v := nI 1) jd_law_1149 (by decide +kernel) rfl ?_
  refine jw_iadd (pc' := 1151) jd_law_1150 (by decide +kernel : (nI 0 : Int32) + nI 1 = nI 1) rfl ?_
  refine jw_sld (pc' := 1152) hX hbl hbA jd_law_1151 (vp_in_nI (n := 1) (by omega) (by omega)) (congrArg xs (nI_clamp (n := 1) (by omega))) rfl ?_
  refine jw_aload_n (pc' := 1153) jd_law_1152 rfl rfl rfl ?_
  refine jw_iload (pc' := 1155) jd_law_1153 rfl rfl ?_
  refine jw_iconst (pc' := 1156) (v := nI 2) jd_law_1155 (by decide +kernel) rfl ?_
  refine jw_iadd (pc' := 1157) jd_law_1156 (by decide +kernel : (nI 0 : Int32) + nI 2 = nI 2) rfl ?_
  refine jw_sld (pc' := 1158) hX hbl hbA jd_law_1157 (vp_in_nI (n := 2) (by omega) (by omega)) (congrArg xs (nI_clamp (n := 2) (by omega))) rfl ?_
  refine jw_aload_n (pc' := 1159) jd_law_1158 rfl rfl rfl ?_
  refine jw_callSH (pc' := 1162) (n := 4) hR (bh_size h1 hL (by omega) (xs 1) (xs 2)) ⟨jq_946, jq_945, jq_54, by decide +kernel, by decide +kernel, by decide +kernel⟩ jq_944 jd_law_1159 rfl rfl (Nat.le_of_ble_eq_true rfl) (by omega) (by decide) (by omega) (by omega) rfl (fun v μ s9 q9 hle => ?_)
  obtain ⟨rfl, ⟨g, hL, hg⟩, f8⟩ := q9
  have h2 := h2.keep (fun z z1 z2 => f8 z (by omega) (by omega))
  have r0 := h2.1
  refine jw_istore (pc' := 1164) (lc' := [(0, _), (1, _), (2, _), (3, _), (4, _), (5, _)]) jd_law_1162 (Nat.le_of_ble_eq_true rfl) ⟨rfl, rfl, rfl, rfl, rfl, rfl, trivial⟩ rfl ?_
  refine jw_aload_n (pc' := 1165) jd_law_1164 rfl rfl rfl ?_
  refine jw_aload_n (pc' := 1166) jd_law_1165 rfl rfl rfl ?_
  refine jw_iload (pc' := 1168) jd_law_1166 rfl rfl ?_
  refine jw_iconst (pc' := 1169) (v := nI 1) jd_law_1168 (by decide +kernel) rfl ?_
  refine jw_iadd (pc' := 1170) jd_law_1169 (by decide +kernel : (nI 0 : Int32) + nI 1 = nI 1) rfl ?_
  refine jw_sld (pc' := 1171) hX hbl hbA jd_law_1170 (vp_in_nI (n := 1) (by omega) (by omega)) (congrArg xs (nI_clamp (n := 1) (by omega))) rfl ?_
  refine jw_aload_n (pc' := 1172) jd_law_1171 rfl rfl rfl ?_
  refine jw_iload (pc' := 1174) jd_law_1172 rfl rfl ?_
  refine jw_iconst (pc' := 1175) (v := nI 2) jd_law_1174 (by decide +kernel) rfl ?_
  refine jw_iadd (pc' := 1176) jd_law_1175 (by decide +kernel : (nI 0 : Int32) + nI 2 = nI 2) rfl ?_
  refine jw_sld (pc' := 1177) hX hbl hbA jd_law_1176 (vp_in_nI (n := 2) (by omega) (by omega)) (congrArg xs (nI_clamp (n := 2) (by omega))) rfl ?_
  refine jw_callV (pc' := 1180) hR (br_size h2 (xs 1) (xs 2)) jm_BranchworkModel_size jq_1534 jc_BranchworkModel jd_law_1177 (by assumption) rfl rfl (Nat.le_of_ble_eq_true rfl) (by omega) (by decide) (by omega) (by omega) rfl (fun v μ s8 q8 hle8 => ?_)
  obtain ⟨⟨w, rfl, hw⟩, ⟨c', r0⟩, f7⟩ := q8
  have hL := (f7 _ (by omega) (by omega)).trans hL
  refine jw_istore (pc' := 1182) (lc' := [(0, _), (1, _), (2, _), (3, _), (4, _), (5, _), (6, _)]) jd_law_1180 (Nat.le_of_ble_eq_true rfl) ⟨rfl, rfl, rfl, rfl, rfl, rfl, rfl, trivial⟩ rfl ?_
  refine jw_aload_n (pc' := 1183) jd_law_1182 rfl rfl rfl ?_
  refine jw_callV0 (pc' := 1186) hR (bq_thrown r0) jm_BranchworkModel_thrown jq_1152 jc_BranchworkModel jd_law_1183 (by assumption) rfl rfl (Nat.le_of_ble_eq_true rfl) (by omega) (by decide) (by omega) (by omega) rfl rfl ?_
  refine jw_iload (pc' := 1188) jd_law_1186 rfl rfl ?_
  refine jw_icmp_eq (tgt := 1193) (pc' := 1191) jd_law_1188 (by decide) rfl (fun c1 => ?_) (fun c1 => ?_)
  rotate_left
  · exact absurd rfl c1
  refine jw_iload (pc' := 1195) jd_law_1193 rfl rfl ?_
  refine jw_if_ne (tgt := 1210) (pc' := 1198) jd_law_1195 (by decide) rfl (fun c2 => ?_) (fun c2 => ?_)
  · refine jw_goto (tgt := 1817) jd_law_1210 (by decide) ?_
    refine jw_sub (lc' := [(0, _), (4, _)]) ⟨rfl, rfl, trivial⟩ ?_
    exact jl_17 hC9 hEnd (by omega) (by omega)
  have hn := jv_nz (kx_show_lt (xs 1) (xs 2)) c2
  obtain rfl := hw hn
  refine jw_aload_n (pc' := 1199) jd_law_1198 rfl rfl rfl ?_
  refine jw_iconst (pc' := 1200) (v := nI 0) jd_law_1199 (by decide +kernel) rfl ?_
  refine jw_lald (pc' := 1201) (i := 4) jd_law_1200 (by assumption) rfl (vp_in_nI (n := 0) (by omega) (by omega)) ((congrArg g (nI_clamp (n := 0) (by omega))).trans (hg hn)) rfl ?_
  refine jw_iload (pc' := 1203) jd_law_1201 rfl rfl ?_
  refine jw_i2l (pc' := 1204) jd_law_1203 rfl rfl ?_
  refine jw_lcmp (pc' := 1205) jd_law_1204 (jv_cmp _) rfl ?_
  refine jw_if_eq (tgt := 1210) (pc' := 1208) jd_law_1205 (by decide) rfl (fun c3 => ?_) (fun c3 => ?_)
  · refine jw_goto (tgt := 1817) jd_law_1210 (by decide) ?_
    refine jw_sub (lc' := [(0, _), (4, _)]) ⟨rfl, rfl, trivial⟩ ?_
    exact jl_17 hC9 hEnd (by omega) (by omega)
  · exact absurd rfl c3
theorem jl_conflict (hC : jl_C o k b0 xs) (hEnd : jl_End nm o k) (h1 : bw_New o μ b) (h2 : bq_At o μ (b + 984) th) (hL : μ (b + 991) = some (.inl (o.2.2.1 4, 1, .inr (.inl f)))) (hkc : kc ≤ 2000) (hks : ks ≤ 20000) : jw_X (mi_lawN nm) o k kc ks 1213 [(0, .ref b0), (1, .ref b), (2, .ref (b + 984)), (3, .ref (b + 991)), (4, .int (nI 0))] [] μ (b + 992) := by
  have hC9 := hC
  obtain ⟨hX, hbl, hbA, hR⟩ := hC
  have h0 := h1.1
  have r0 := h2.1
  refine jw_aload_n (pc' := 1214) jd_law_1213 rfl rfl rfl ?_
  refine jw_aload_n (pc' := 1215) jd_law_1214 rfl rfl rfl ?_
  refine jw_iload (pc' := 1217) jd_law_1215 rfl rfl ?_
  refine jw_iconst (pc' := 1218) (v := nI 1) jd_law_1217 (by decide +kernel) rfl ?_
  refine jw_iadd (pc' := 1219) jd_law_1218 (by decide +kernel : (nI 0 : Int32) + nI 1 = nI 1) rfl ?_
  refine jw_sld (pc' := 1220) hX hbl hbA jd_law_1219 (vp_in_nI (n := 1) (by omega) (by omega)) (congrArg xs (nI_clamp (n := 1) (by omega))) rfl ?_
  refine jw_aload_n (pc' := 1221) jd_law_1220 rfl rfl rfl ?_
  refine jw_iload (pc' := 1223) jd_law_1221 rfl rfl ?_
  refine jw_iconst (pc' := 1224) (v := nI 2) jd_law_1223 (by decide +kernel) rfl ?_
  refine jw_iadd (pc' := 1225) jd_law_1224 (by decide +kernel : (nI 0 : Int32) + nI 2 = nI 2) rfl ?_
  refine jw_sld (pc' := 1226) hX hbl hbA jd_law_1225 (vp_in_nI (n := 2) (by omega) (by omega)) (congrArg xs (nI_clamp (n := 2) (by omega))) rfl ?_
  refine jw_aload_n (pc' := 1227) jd_law_1226 rfl rfl rfl ?_
  refine jw_callSH (pc' := 1230) (n := 4) hR (bh_conflict h1 hL (by omega) (xs 1) (xs 2)) ⟨jq_953, jq_952, jq_54, by decide +kernel, by decide +kernel, by decide +kernel⟩ jq_951 jd_law_1227 rfl rfl (Nat.le_of_ble_eq_true rfl) (by omega) (by decide) (by omega) (by omega) rfl (fun v μ s9 q9 hle => ?_)
  obtain ⟨rfl, ⟨g, hL, hg⟩, f8⟩ := q9
  have h2 := h2.keep (fun z z1 z2 => f8 z (by omega) (by omega))
  have r0 := h2.1
  refine jw_istore (pc' := 1232) (lc' := [(0, _), (1, _), (2, _), (3, _), (4, _), (5, _)]) jd_law_1230 (Nat.le_of_ble_eq_true rfl) ⟨rfl, rfl, rfl, rfl, rfl, rfl, trivial⟩ rfl ?_
  refine jw_aload_n (pc' := 1233) jd_law_1232 rfl rfl rfl ?_
  refine jw_aload_n (pc' := 1234) jd_law_1233 rfl rfl rfl ?_
  refine jw_iload (pc' := 1236) jd_law_1234 rfl rfl ?_
  refine jw_iconst (pc' := 1237) (v := nI 1) jd_law_1236 (by decide +kernel) rfl ?_
  refine jw_iadd (pc' := 1238) jd_law_1237 (by decide +kernel : (nI 0 : Int32) + nI 1 = nI 1) rfl ?_
  refine jw_sld (pc' := 1239) hX hbl hbA jd_law_1238 (vp_in_nI (n := 1) (by omega) (by omega)) (congrArg xs (nI_clamp (n := 1) (by omega))) rfl ?_
  refine jw_aload_n (pc' := 1240) jd_law_1239 rfl rfl rfl ?_
  refine jw_iload (pc' := 1242) jd_law_1240 rfl rfl ?_
  refine jw_iconst (pc' := 1243) (v := nI 2) jd_law_1242 (by decide +kernel) rfl ?_
  refine jw_iadd (pc' := 1244) jd_law_1243 (by decide +kernel : (nI 0 : Int32) + nI 2 = nI 2) rfl ?_
  refine jw_sld (pc' := 1245) hX hbl hbA jd_law_1244 (vp_in_nI (n := 2) (by omega) (by omega)) (congrArg xs (nI_clamp (n := 2) (by omega))) rfl ?_
  refine jw_callV (pc' := 1248) hR (br_conflict h2 (xs 1) (xs 2)) jm_BranchworkModel_conflict jq_1538 jc_BranchworkModel jd_law_1245 (by assumption) rfl rfl (Nat.le_of_ble_eq_true rfl) (by omega) (by decide) (by omega) (by omega) rfl (fun v μ s8 q8 hle8 => ?_)
  obtain ⟨⟨w, rfl, hw⟩, ⟨c', r0⟩, f7⟩ := q8
  have hL := (f7 _ (by omega) (by omega)).trans hL
  refine jw_istore (pc' := 1250) (lc' := [(0, _), (1, _), (2, _), (3, _), (4, _), (5, _), (6, _)]) jd_law_1248 (Nat.le_of_ble_eq_true rfl) ⟨rfl, rfl, rfl, rfl, rfl, rfl, rfl, trivial⟩ rfl ?_
  refine jw_aload_n (pc' := 1251) jd_law_1250 rfl rfl rfl ?_
  refine jw_callV0 (pc' := 1254) hR (bq_thrown r0) jm_BranchworkModel_thrown jq_1152 jc_BranchworkModel jd_law_1251 (by assumption) rfl rfl (Nat.le_of_ble_eq_true rfl) (by omega) (by decide) (by omega) (by omega) rfl rfl ?_
  refine jw_iload (pc' := 1256) jd_law_1254 rfl rfl ?_
  refine jw_icmp_eq (tgt := 1261) (pc' := 1259) jd_law_1256 (by decide) rfl (fun c1 => ?_) (fun c1 => ?_)
  rotate_left
  · exact absurd rfl c1
  refine jw_iload (pc' := 1263) jd_law_1261 rfl rfl ?_
  refine jw_if_ne (tgt := 1278) (pc' := 1266) jd_law_1263 (by decide) rfl (fun c2 => ?_) (fun c2 => ?_)
  · refine jw_goto (tgt := 1817) jd_law_1278 (by decide) ?_
    refine jw_sub (lc' := [(0, _), (4, _)]) ⟨rfl, rfl, trivial⟩ ?_
    exact jl_17 hC9 hEnd (by omega) (by omega)
  · exact absurd c2 (by decide)
theorem jl_base (hC : jl_C o k b0 xs) (hEnd : jl_End nm o k) (h1 : bw_New o μ b) (h2 : bq_At o μ (b + 984) th) (hL : μ (b + 991) = some (.inl (o.2.2.1 4, 1, .inr (.inl f)))) (hkc : kc ≤ 2000) (hks : ks ≤ 20000) : jw_X (mi_lawN nm) o k kc ks 1281 [(0, .ref b0), (1, .ref b), (2, .ref (b + 984)), (3, .ref (b + 991)), (4, .int (nI 0))] [] μ (b + 992) := by
  have hC9 := hC
  obtain ⟨hX, hbl, hbA, hR⟩ := hC
  have h0 := h1.1
  have r0 := h2.1
  refine jw_aload_n (pc' := 1282) jd_law_1281 rfl rfl rfl ?_
  refine jw_aload_n (pc' := 1283) jd_law_1282 rfl rfl rfl ?_
  refine jw_iload (pc' := 1285) jd_law_1283 rfl rfl ?_
  refine jw_iconst (pc' := 1286) (v := nI 1) jd_law_1285 (by decide +kernel) rfl ?_
  refine jw_iadd (pc' := 1287) jd_law_1286 (by decide +kernel : (nI 0 : Int32) + nI 1 = nI 1) rfl ?_
  refine jw_sld (pc' := 1288) hX hbl hbA jd_law_1287 (vp_in_nI (n := 1) (by omega) (by omega)) (congrArg xs (nI_clamp (n := 1) (by omega))) rfl ?_
  refine jw_aload_n (pc' := 1289) jd_law_1288 rfl rfl rfl ?_
  refine jw_iload (pc' := 1291) jd_law_1289 rfl rfl ?_
  refine jw_iconst (pc' := 1292) (v := nI 2) jd_law_1291 (by decide +kernel) rfl ?_
  refine jw_iadd (pc' := 1293) jd_law_1292 (by decide +kernel : (nI 0 : Int32) + nI 2 = nI 2) rfl ?_
  refine jw_sld (pc' := 1294) hX hbl hbA jd_law_1293 (vp_in_nI (n := 2) (by omega) (by omega)) (congrArg xs (nI_clamp (n := 2) (by omega))) rfl ?_
  refine jw_aload_n (pc' := 1295) jd_law_1294 rfl rfl rfl ?_
  refine jw_callSH (pc' := 1298) (n := 4) hR (bh_base h1 hL (by omega) (xs 1) (xs 2)) ⟨jq_961, jq_960, jq_54, by decide +kernel, by decide +kernel, by decide +kernel⟩ jq_959 jd_law_1295 rfl rfl (Nat.le_of_ble_eq_true rfl) (by omega) (by decide) (by omega) (by omega) rfl (fun v μ s9 q9 hle => ?_)
  obtain ⟨rfl, ⟨g, hL, hg⟩, f8⟩ := q9
  have h2 := h2.keep (fun z z1 z2 => f8 z (by omega) (by omega))
  have r0 := h2.1
  refine jw_istore (pc' := 1300) (lc' := [(0, _), (1, _), (2, _), (3, _), (4, _), (5, _)]) jd_law_1298 (Nat.le_of_ble_eq_true rfl) ⟨rfl, rfl, rfl, rfl, rfl, rfl, trivial⟩ rfl ?_
  refine jw_aload_n (pc' := 1301) jd_law_1300 rfl rfl rfl ?_
  refine jw_aload_n (pc' := 1302) jd_law_1301 rfl rfl rfl ?_
  refine jw_iload (pc' := 1304) jd_law_1302 rfl rfl ?_
  refine jw_iconst (pc' := 1305) (v := nI 1) jd_law_1304 (by decide +kernel) rfl ?_
  refine jw_iadd (pc' := 1306) jd_law_1305 (by decide +kernel : (nI 0 : Int32) + nI 1 = nI 1) rfl ?_
  refine jw_sld (pc' := 1307) hX hbl hbA jd_law_1306 (vp_in_nI (n := 1) (by omega) (by omega)) (congrArg xs (nI_clamp (n := 1) (by omega))) rfl ?_
  refine jw_aload_n (pc' := 1308) jd_law_1307 rfl rfl rfl ?_
  refine jw_iload (pc' := 1310) jd_law_1308 rfl rfl ?_
  refine jw_iconst (pc' := 1311) (v := nI 2) jd_law_1310 (by decide +kernel) rfl ?_
  refine jw_iadd (pc' := 1312) jd_law_1311 (by decide +kernel : (nI 0 : Int32) + nI 2 = nI 2) rfl ?_
  refine jw_sld (pc' := 1313) hX hbl hbA jd_law_1312 (vp_in_nI (n := 2) (by omega) (by omega)) (congrArg xs (nI_clamp (n := 2) (by omega))) rfl ?_
  refine jw_callV (pc' := 1316) hR (br_base h2 (xs 1) (xs 2)) jm_BranchworkModel_base jq_1542 jc_BranchworkModel jd_law_1313 (by assumption) rfl rfl (Nat.le_of_ble_eq_true rfl) (by omega) (by decide) (by omega) (by omega) rfl (fun v μ s8 q8 hle8 => ?_)
  obtain ⟨⟨w, rfl, hw⟩, ⟨c', r0⟩, f7⟩ := q8
  have hL := (f7 _ (by omega) (by omega)).trans hL
  refine jw_istore (pc' := 1318) (lc' := [(0, _), (1, _), (2, _), (3, _), (4, _), (5, _), (6, _)]) jd_law_1316 (Nat.le_of_ble_eq_true rfl) ⟨rfl, rfl, rfl, rfl, rfl, rfl, rfl, trivial⟩ rfl ?_
  refine jw_aload_n (pc' := 1319) jd_law_1318 rfl rfl rfl ?_
  refine jw_callV0 (pc' := 1322) hR (bq_thrown r0) jm_BranchworkModel_thrown jq_1152 jc_BranchworkModel jd_law_1319 (by assumption) rfl rfl (Nat.le_of_ble_eq_true rfl) (by omega) (by decide) (by omega) (by omega) rfl rfl ?_
  refine jw_iload (pc' := 1324) jd_law_1322 rfl rfl ?_
  refine jw_icmp_eq (tgt := 1329) (pc' := 1327) jd_law_1324 (by decide) rfl (fun c1 => ?_) (fun c1 => ?_)
  rotate_left
  · exact absurd rfl c1
  refine jw_iload (pc' := 1331) jd_law_1329 rfl rfl ?_
  refine jw_if_ne (tgt := 1346) (pc' := 1334) jd_law_1331 (by decide) rfl (fun c2 => ?_) (fun c2 => ?_)
  · refine jw_goto (tgt := 1817) jd_law_1346 (by decide) ?_
    refine jw_sub (lc' := [(0, _), (4, _)]) ⟨rfl, rfl, trivial⟩ ?_
    exact jl_17 hC9 hEnd (by omega) (by omega)
  · exact absurd c2 (by decide)
theorem jl_went (hC : jl_C o k b0 xs) (hEnd : jl_End nm o k) (h1 : bw_New o μ b) (h2 : bq_At o μ (b + 984) th) (hL : μ (b + 991) = some (.inl (o.2.2.1 4, 1, .inr (.inl f)))) (hkc : kc ≤ 2000) (hks : ks ≤ 20000) : jw_X (mi_lawN nm) o k kc ks 1349 [(0, .ref b0), (1, .ref b), (2, .ref (b + 984)), (3, .ref (b + 991)), (4, .int (nI 0))] [] μ (b + 992) := by
  have hC9 := hC
  obtain ⟨hX, hbl, hbA, hR⟩ := hC
  have h0 := h1.1
  have r0 := h2.1
  refine jw_aload_n (pc' := 1350) jd_law_1349 rfl rfl rfl ?_
  refine jw_aload_n (pc' := 1351) jd_law_1350 rfl rfl rfl ?_
  refine jw_iload (pc' := 1353) jd_law_1351 rfl rfl ?_
  refine jw_iconst (pc' := 1354) (v := nI 1) jd_law_1353 (by decide +kernel) rfl ?_
  refine jw_iadd (pc' := 1355) jd_law_1354 (by decide +kernel : (nI 0 : Int32) + nI 1 = nI 1) rfl ?_
  refine jw_sld (pc' := 1356) hX hbl hbA jd_law_1355 (vp_in_nI (n := 1) (by omega) (by omega)) (congrArg xs (nI_clamp (n := 1) (by omega))) rfl ?_
  refine jw_aload_n (pc' := 1357) jd_law_1356 rfl rfl rfl ?_
  refine jw_iload (pc' := 1359) jd_law_1357 rfl rfl ?_
  refine jw_iconst (pc' := 1360) (v := nI 2) jd_law_1359 (by decide +kernel) rfl ?_
  refine jw_iadd (pc' := 1361) jd_law_1360 (by decide +kernel : (nI 0 : Int32) + nI 2 = nI 2) rfl ?_
  refine jw_sld (pc' := 1362) hX hbl hbA jd_law_1361 (vp_in_nI (n := 2) (by omega) (by omega)) (congrArg xs (nI_clamp (n := 2) (by omega))) rfl ?_
  refine jw_aload_n (pc' := 1363) jd_law_1362 rfl rfl rfl ?_
  refine jw_iload (pc' := 1365) jd_law_1363 rfl rfl ?_
  refine jw_iconst (pc' := 1366) (v := nI 3) jd_law_1365 (by decide +kernel) rfl ?_
  refine jw_iadd (pc' := 1367) jd_law_1366 (by decide +kernel : (nI 0 : Int32) + nI 3 = nI 3) rfl ?_
  refine jw_sld (pc' := 1368) hX hbl hbA jd_law_1367 (vp_in_nI (n := 3) (by omega) (by omega)) (congrArg xs (nI_clamp (n := 3) (by omega))) rfl ?_
  refine jw_aload_n (pc' := 1369) jd_law_1368 rfl rfl rfl ?_
  refine jw_callSH (pc' := 1372) (n := 5) hR (bh_went h1 hL (by omega) (xs 1) (xs 2) (xs 3)) ⟨jq_968, jq_967, jq_54, by decide +kernel, by decide +kernel, by decide +kernel⟩ jq_966 jd_law_1369 rfl rfl (Nat.le_of_ble_eq_true rfl) (by omega) (by decide) (by omega) (by omega) rfl (fun v μ s9 q9 hle => ?_)
  obtain ⟨rfl, ⟨g, hL, hg⟩, f8⟩ := q9
  have h2 := h2.keep (fun z z1 z2 => f8 z (by omega) (by omega))
  have r0 := h2.1
  refine jw_istore (pc' := 1374) (lc' := [(0, _), (1, _), (2, _), (3, _), (4, _), (5, _)]) jd_law_1372 (Nat.le_of_ble_eq_true rfl) ⟨rfl, rfl, rfl, rfl, rfl, rfl, trivial⟩ rfl ?_
  refine jw_aload_n (pc' := 1375) jd_law_1374 rfl rfl rfl ?_
  refine jw_aload_n (pc' := 1376) jd_law_1375 rfl rfl rfl ?_
  refine jw_iload (pc' := 1378) jd_law_1376 rfl rfl ?_
  refine jw_iconst (pc' := 1379) (v := nI 1) jd_law_1378 (by decide +kernel) rfl ?_
  refine jw_iadd (pc' := 1380) jd_law_1379 (by decide +kernel : (nI 0 : Int32) + nI 1 = nI 1) rfl ?_
  refine jw_sld (pc' := 1381) hX hbl hbA jd_law_1380 (vp_in_nI (n := 1) (by omega) (by omega)) (congrArg xs (nI_clamp (n := 1) (by omega))) rfl ?_
  refine jw_aload_n (pc' := 1382) jd_law_1381 rfl rfl rfl ?_
  refine jw_iload (pc' := 1384) jd_law_1382 rfl rfl ?_
  refine jw_iconst (pc' := 1385) (v := nI 2) jd_law_1384 (by decide +kernel) rfl ?_
  refine jw_iadd (pc' := 1386) jd_law_1385 (by decide +kernel : (nI 0 : Int32) + nI 2 = nI 2) rfl ?_
  refine jw_sld (pc' := 1387) hX hbl hbA jd_law_1386 (vp_in_nI (n := 2) (by omega) (by omega)) (congrArg xs (nI_clamp (n := 2) (by omega))) rfl ?_
  refine jw_aload_n (pc' := 1388) jd_law_1387 rfl rfl rfl ?_
  refine jw_iload (pc' := 1390) jd_law_1388 rfl rfl ?_
  refine jw_iconst (pc' := 1391) (v := nI 3) jd_law_1390 (by decide +kernel) rfl ?_
  refine jw_iadd (pc' := 1392) jd_law_1391 (by decide +kernel : (nI 0 : Int32) + nI 3 = nI 3) rfl ?_
  refine jw_sld (pc' := 1393) hX hbl hbA jd_law_1392 (vp_in_nI (n := 3) (by omega) (by omega)) (congrArg xs (nI_clamp (n := 3) (by omega))) rfl ?_
  refine jw_callV (pc' := 1396) hR (br_went h2 (xs 1) (xs 2) (xs 3)) jm_BranchworkModel_went jq_1546 jc_BranchworkModel jd_law_1393 (by assumption) rfl rfl (Nat.le_of_ble_eq_true rfl) (by omega) (by decide) (by omega) (by omega) rfl (fun v μ s8 q8 hle8 => ?_)
  obtain ⟨⟨w, rfl, hw⟩, ⟨c', r0⟩, f7⟩ := q8
  have hL := (f7 _ (by omega) (by omega)).trans hL
  refine jw_istore (pc' := 1398) (lc' := [(0, _), (1, _), (2, _), (3, _), (4, _), (5, _), (6, _)]) jd_law_1396 (Nat.le_of_ble_eq_true rfl) ⟨rfl, rfl, rfl, rfl, rfl, rfl, rfl, trivial⟩ rfl ?_
  refine jw_aload_n (pc' := 1399) jd_law_1398 rfl rfl rfl ?_
  refine jw_callV0 (pc' := 1402) hR (bq_thrown r0) jm_BranchworkModel_thrown jq_1152 jc_BranchworkModel jd_law_1399 (by assumption) rfl rfl (Nat.le_of_ble_eq_true rfl) (by omega) (by decide) (by omega) (by omega) rfl rfl ?_
  refine jw_iload (pc' := 1404) jd_law_1402 rfl rfl ?_
  refine jw_icmp_eq (tgt := 1409) (pc' := 1407) jd_law_1404 (by decide) rfl (fun c1 => ?_) (fun c1 => ?_)
  rotate_left
  · exact absurd rfl c1
  refine jw_iload (pc' := 1411) jd_law_1409 rfl rfl ?_
  refine jw_if_ne (tgt := 1426) (pc' := 1414) jd_law_1411 (by decide) rfl (fun c2 => ?_) (fun c2 => ?_)
  · refine jw_goto (tgt := 1817) jd_law_1426 (by decide) ?_
    refine jw_sub (lc' := [(0, _), (4, _)]) ⟨rfl, rfl, trivial⟩ ?_
    exact jl_17 hC9 hEnd (by omega) (by omega)
  · exact absurd c2 (by decide)
theorem jl_changes (hC : jl_C o k b0 xs) (hEnd : jl_End nm o k) (h1 : bw_New o μ b) (h2 : bq_At o μ (b + 984) th) (hL : μ (b + 991) = some (.inl (o.2.2.1 4, 1, .inr (.inl f)))) (hkc : kc ≤ 2000) (hks : ks ≤ 20000) : jw_X (mi_lawN nm) o k kc ks 1429 [(0, .ref b0), (1, .ref b), (2, .ref (b + 984)), (3, .ref (b + 991)), (4, .int (nI 0))] [] μ (b + 992) := by
  have hC9 := hC
  obtain ⟨hX, hbl, hbA, hR⟩ := hC
  have h0 := h1.1
  have r0 := h2.1
  refine jw_aload_n (pc' := 1430) jd_law_1429 rfl rfl rfl ?_
  refine jw_aload_n (pc' := 1431) jd_law_1430 rfl rfl rfl ?_
  refine jw_iload (pc' := 1433) jd_law_1431 rfl rfl ?_
  refine jw_iconst (pc' := 1434) (v := nI 1) jd_law_1433 (by decide +kernel) rfl ?_
  refine jw_iadd (pc' := 1435) jd_law_1434 (by decide +kernel : (nI 0 : Int32) + nI 1 = nI 1) rfl ?_
  refine jw_sld (pc' := 1436) hX hbl hbA jd_law_1435 (vp_in_nI (n := 1) (by omega) (by omega)) (congrArg xs (nI_clamp (n := 1) (by omega))) rfl ?_
  refine jw_aload_n (pc' := 1437) jd_law_1436 rfl rfl rfl ?_
  refine jw_iload (pc' := 1439) jd_law_1437 rfl rfl ?_
  refine jw_iconst (pc' := 1440) (v := nI 2) jd_law_1439 (by decide +kernel) rfl ?_
  refine jw_iadd (pc' := 1441) jd_law_1440 (by decide +kernel : (nI 0 : Int32) + nI 2 = nI 2) rfl ?_
  refine jw_sld (pc' := 1442) hX hbl hbA jd_law_1441 (vp_in_nI (n := 2) (by omega) (by omega)) (congrArg xs (nI_clamp (n := 2) (by omega))) rfl ?_
  refine jw_aload_n (pc' := 1443) jd_law_1442 rfl rfl rfl ?_
  refine jw_iload (pc' := 1445) jd_law_1443 rfl rfl ?_
  refine jw_iconst (pc' := 1446) (v := nI 3) jd_law_1445 (by decide +kernel) rfl ?_
  refine jw_iadd (pc' := 1447) jd_law_1446 (by decide +kernel : (nI 0 : Int32) + nI 3 = nI 3) rfl ?_
  refine jw_sld (pc' := 1448) hX hbl hbA jd_law_1447 (vp_in_nI (n := 3) (by omega) (by omega)) (congrArg xs (nI_clamp (n := 3) (by omega))) rfl ?_
  refine jw_aload_n (pc' := 1449) jd_law_1448 rfl rfl rfl ?_
  refine jw_callSH (pc' := 1452) (n := 5) hR (bh_changes h1 hL (by omega) (xs 1) (xs 2) (xs 3)) ⟨jq_977, jq_976, jq_54, by decide +kernel, by decide +kernel, by decide +kernel⟩ jq_975 jd_law_1449 rfl rfl (Nat.le_of_ble_eq_true rfl) (by omega) (by decide) (by omega) (by omega) rfl (fun v μ s9 q9 hle => ?_)
  obtain ⟨rfl, ⟨g, hL, hg⟩, f8⟩ := q9
  have h2 := h2.keep (fun z z1 z2 => f8 z (by omega) (by omega))
  have r0 := h2.1
  refine jw_istore (pc' := 1454) (lc' := [(0, _), (1, _), (2, _), (3, _), (4, _), (5, _)]) jd_law_1452 (Nat.le_of_ble_eq_true rfl) ⟨rfl, rfl, rfl, rfl, rfl, rfl, trivial⟩ rfl ?_
  refine jw_aload_n (pc' := 1455) jd_law_1454 rfl rfl rfl ?_
  refine jw_aload_n (pc' := 1456) jd_law_1455 rfl rfl rfl ?_
  refine jw_iload (pc' := 1458) jd_law_1456 rfl rfl ?_
  refine jw_iconst (pc' := 1459) (v := nI 1) jd_law_1458 (by decide +kernel) rfl ?_
  refine jw_iadd (pc' := 1460) jd_law_1459 (by decide +kernel : (nI 0 : Int32) + nI 1 = nI 1) rfl ?_
  refine jw_sld (pc' := 1461) hX hbl hbA jd_law_1460 (vp_in_nI (n := 1) (by omega) (by omega)) (congrArg xs (nI_clamp (n := 1) (by omega))) rfl ?_
  refine jw_aload_n (pc' := 1462) jd_law_1461 rfl rfl rfl ?_
  refine jw_iload (pc' := 1464) jd_law_1462 rfl rfl ?_
  refine jw_iconst (pc' := 1465) (v := nI 2) jd_law_1464 (by decide +kernel) rfl ?_
  refine jw_iadd (pc' := 1466) jd_law_1465 (by decide +kernel : (nI 0 : Int32) + nI 2 = nI 2) rfl ?_
  refine jw_sld (pc' := 1467) hX hbl hbA jd_law_1466 (vp_in_nI (n := 2) (by omega) (by omega)) (congrArg xs (nI_clamp (n := 2) (by omega))) rfl ?_
  refine jw_aload_n (pc' := 1468) jd_law_1467 rfl rfl rfl ?_
  refine jw_iload (pc' := 1470) jd_law_1468 rfl rfl ?_
  refine jw_iconst (pc' := 1471) (v := nI 3) jd_law_1470 (by decide +kernel) rfl ?_
  refine jw_iadd (pc' := 1472) jd_law_1471 (by decide +kernel : (nI 0 : Int32) + nI 3 = nI 3) rfl ?_
  refine jw_sld (pc' := 1473) hX hbl hbA jd_law_1472 (vp_in_nI (n := 3) (by omega) (by omega)) (congrArg xs (nI_clamp (n := 3) (by omega))) rfl ?_
  refine jw_callV (pc' := 1476) hR (br_changes h2 (xs 1) (xs 2) (xs 3)) jm_BranchworkModel_changes jq_1551 jc_BranchworkModel jd_law_1473 (by assumption) rfl rfl (Nat.le_of_ble_eq_true rfl) (by omega) (by decide) (by omega) (by omega) rfl (fun v μ s8 q8 hle8 => ?_)
  obtain ⟨⟨w, rfl, hw⟩, ⟨c', r0⟩, f7⟩ := q8
  have hL := (f7 _ (by omega) (by omega)).trans hL
  refine jw_istore (pc' := 1478) (lc' := [(0, _), (1, _), (2, _), (3, _), (4, _), (5, _), (6, _)]) jd_law_1476 (Nat.le_of_ble_eq_true rfl) ⟨rfl, rfl, rfl, rfl, rfl, rfl, rfl, trivial⟩ rfl ?_
  refine jw_aload_n (pc' := 1479) jd_law_1478 rfl rfl rfl ?_
  refine jw_callV0 (pc' := 1482) hR (bq_thrown r0) jm_BranchworkModel_thrown jq_1152 jc_BranchworkModel jd_law_1479 (by assumption) rfl rfl (Nat.le_of_ble_eq_true rfl) (by omega) (by decide) (by omega) (by omega) rfl rfl ?_
  refine jw_iload (pc' := 1484) jd_law_1482 rfl rfl ?_
  refine jw_icmp_eq (tgt := 1489) (pc' := 1487) jd_law_1484 (by decide) rfl (fun c1 => ?_) (fun c1 => ?_)
  rotate_left
  · exact absurd rfl c1
  refine jw_iload (pc' := 1491) jd_law_1489 rfl rfl ?_
  refine jw_if_ne (tgt := 1506) (pc' := 1494) jd_law_1491 (by decide) rfl (fun c2 => ?_) (fun c2 => ?_)
  · refine jw_goto (tgt := 1817) jd_law_1506 (by decide) ?_
    refine jw_sub (lc' := [(0, _), (4, _)]) ⟨rfl, rfl, trivial⟩ ?_
    exact jl_17 hC9 hEnd (by omega) (by omega)
  · exact absurd c2 (by decide)
theorem jl_nearness (hC : jl_C o k b0 xs) (hEnd : jl_End nm o k) (h1 : bw_New o μ b) (h2 : bq_At o μ (b + 984) th) (hL : μ (b + 991) = some (.inl (o.2.2.1 4, 1, .inr (.inl f)))) (hkc : kc ≤ 2000) (hks : ks ≤ 20000) : jw_X (mi_lawN nm) o k kc ks 1509 [(0, .ref b0), (1, .ref b), (2, .ref (b + 984)), (3, .ref (b + 991)), (4, .int (nI 0))] [] μ (b + 992) := by
  have hC9 := hC
  obtain ⟨hX, hbl, hbA, hR⟩ := hC
  have h0 := h1.1
  have r0 := h2.1
  refine jw_aload_n (pc' := 1510) jd_law_1509 rfl rfl rfl ?_
  refine jw_aload_n (pc' := 1511) jd_law_1510 rfl rfl rfl ?_
  refine jw_iload (pc' := 1513) jd_law_1511 rfl rfl ?_
  refine jw_iconst (pc' := 1514) (v := nI 1) jd_law_1513 (by decide +kernel) rfl ?_
  refine jw_iadd (pc' := 1515) jd_law_1514 (by decide +kernel : (nI 0 : Int32) + nI 1 = nI 1) rfl ?_
  refine jw_sld (pc' := 1516) hX hbl hbA jd_law_1515 (vp_in_nI (n := 1) (by omega) (by omega)) (congrArg xs (nI_clamp (n := 1) (by omega))) rfl ?_
  refine jw_aload_n (pc' := 1517) jd_law_1516 rfl rfl rfl ?_
  refine jw_iload (pc' := 1519) jd_law_1517 rfl rfl ?_
  refine jw_iconst (pc' := 1520) (v := nI 2) jd_law_1519 (by decide +kernel) rfl ?_
  refine jw_iadd (pc' := 1521) jd_law_1520 (by decide +kernel : (nI 0 : Int32) + nI 2 = nI 2) rfl ?_
  refine jw_sld (pc' := 1522) hX hbl hbA jd_law_1521 (vp_in_nI (n := 2) (by omega) (by omega)) (congrArg xs (nI_clamp (n := 2) (by omega))) rfl ?_
  refine jw_aload_n (pc' := 1523) jd_law_1522 rfl rfl rfl ?_
  refine jw_iload (pc' := 1525) jd_law_1523 rfl rfl ?_
  refine jw_iconst (pc' := 1526) (v := nI 3) jd_law_1525 (by decide +kernel) rfl ?_
  refine jw_iadd (pc' := 1527) jd_law_1526 (by decide +kernel : (nI 0 : Int32) + nI 3 = nI 3) rfl ?_
  refine jw_sld (pc' := 1528) hX hbl hbA jd_law_1527 (vp_in_nI (n := 3) (by omega) (by omega)) (congrArg xs (nI_clamp (n := 3) (by omega))) rfl ?_
  refine jw_aload_n (pc' := 1529) jd_law_1528 rfl rfl rfl ?_
  refine jw_iload (pc' := 1531) jd_law_1529 rfl rfl ?_
  refine jw_iconst (pc' := 1532) (v := nI 4) jd_law_1531 (by decide +kernel) rfl ?_
  refine jw_iadd (pc' := 1533) jd_law_1532 (by decide +kernel : (nI 0 : Int32) + nI 4 = nI 4) rfl ?_
  refine jw_sld (pc' := 1534) hX hbl hbA jd_law_1533 (vp_in_nI (n := 4) (by omega) (by omega)) (congrArg xs (nI_clamp (n := 4) (by omega))) rfl ?_
  refine jw_aload_n (pc' := 1535) jd_law_1534 rfl rfl rfl ?_
  refine jw_callSH (pc' := 1538) (n := 6) hR (bh_nearness h1 hL (by omega) (xs 1) (xs 2) (xs 3) (xs 4)) ⟨jq_994, jq_993, jq_54, by decide +kernel, by decide +kernel, by decide +kernel⟩ jq_992 jd_law_1535 rfl rfl (Nat.le_of_ble_eq_true rfl) (by omega) (by decide) (by omega) (by omega) rfl (fun v μ s9 q9 hle => ?_)
  obtain ⟨rfl, ⟨g, hL, hg⟩, f8⟩ := q9
  have h2 := h2.keep (fun z z1 z2 => f8 z (by omega) (by omega))
  have r0 := h2.1
  refine jw_istore (pc' := 1540) (lc' := [(0, _), (1, _), (2, _), (3, _), (4, _), (5, _)]) jd_law_1538 (Nat.le_of_ble_eq_true rfl) ⟨rfl, rfl, rfl, rfl, rfl, rfl, trivial⟩ rfl ?_
  refine jw_aload_n (pc' := 1541) jd_law_1540 rfl rfl rfl ?_
  refine jw_aload_n (pc' := 1542) jd_law_1541 rfl rfl rfl ?_
  refine jw_iload (pc' := 1544) jd_law_1542 rfl rfl ?_
  refine jw_iconst (pc' := 1545) (v := nI 1) jd_law_1544 (by decide +kernel) rfl ?_
  refine jw_iadd (pc' := 1546) jd_law_1545 (by decide +kernel : (nI 0 : Int32) + nI 1 = nI 1) rfl ?_
  refine jw_sld (pc' := 1547) hX hbl hbA jd_law_1546 (vp_in_nI (n := 1) (by omega) (by omega)) (congrArg xs (nI_clamp (n := 1) (by omega))) rfl ?_
  refine jw_aload_n (pc' := 1548) jd_law_1547 rfl rfl rfl ?_
  refine jw_iload (pc' := 1550) jd_law_1548 rfl rfl ?_
  refine jw_iconst (pc' := 1551) (v := nI 2) jd_law_1550 (by decide +kernel) rfl ?_
  refine jw_iadd (pc' := 1552) jd_law_1551 (by decide +kernel : (nI 0 : Int32) + nI 2 = nI 2) rfl ?_
  refine jw_sld (pc' := 1553) hX hbl hbA jd_law_1552 (vp_in_nI (n := 2) (by omega) (by omega)) (congrArg xs (nI_clamp (n := 2) (by omega))) rfl ?_
  refine jw_aload_n (pc' := 1554) jd_law_1553 rfl rfl rfl ?_
  refine jw_iload (pc' := 1556) jd_law_1554 rfl rfl ?_
  refine jw_iconst (pc' := 1557) (v := nI 3) jd_law_1556 (by decide +kernel) rfl ?_
  refine jw_iadd (pc' := 1558) jd_law_1557 (by decide +kernel : (nI 0 : Int32) + nI 3 = nI 3) rfl ?_
  refine jw_sld (pc' := 1559) hX hbl hbA jd_law_1558 (vp_in_nI (n := 3) (by omega) (by omega)) (congrArg xs (nI_clamp (n := 3) (by omega))) rfl ?_
  refine jw_aload_n (pc' := 1560) jd_law_1559 rfl rfl rfl ?_
  refine jw_iload (pc' := 1562) jd_law_1560 rfl rfl ?_
  refine jw_iconst (pc' := 1563) (v := nI 4) jd_law_1562 (by decide +kernel) rfl ?_
  refine jw_iadd (pc' := 1564) jd_law_1563 (by decide +kernel : (nI 0 : Int32) + nI 4 = nI 4) rfl ?_
  refine jw_sld (pc' := 1565) hX hbl hbA jd_law_1564 (vp_in_nI (n := 4) (by omega) (by omega)) (congrArg xs (nI_clamp (n := 4) (by omega))) rfl ?_
  refine jw_callV (pc' := 1568) hR (br_nearness h2 (xs 1) (xs 2) (xs 3) (xs 4)) jm_BranchworkModel_nearness0 jq_1557 jc_BranchworkModel jd_law_1565 (by assumption) rfl rfl (Nat.le_of_ble_eq_true rfl) (by omega) (by decide) (by omega) (by omega) rfl (fun v μ s8 q8 hle8 => ?_)
  obtain ⟨⟨w, rfl, hw⟩, ⟨c', r0⟩, f7⟩ := q8
  have hL := (f7 _ (by omega) (by omega)).trans hL
  refine jw_istore (pc' := 1570) (lc' := [(0, _), (1, _), (2, _), (3, _), (4, _), (5, _), (6, _)]) jd_law_1568 (Nat.le_of_ble_eq_true rfl) ⟨rfl, rfl, rfl, rfl, rfl, rfl, rfl, trivial⟩ rfl ?_
  refine jw_aload_n (pc' := 1571) jd_law_1570 rfl rfl rfl ?_
  refine jw_callV0 (pc' := 1574) hR (bq_thrown r0) jm_BranchworkModel_thrown jq_1152 jc_BranchworkModel jd_law_1571 (by assumption) rfl rfl (Nat.le_of_ble_eq_true rfl) (by omega) (by decide) (by omega) (by omega) rfl rfl ?_
  refine jw_iload (pc' := 1576) jd_law_1574 rfl rfl ?_
  refine jw_icmp_eq (tgt := 1581) (pc' := 1579) jd_law_1576 (by decide) rfl (fun c1 => ?_) (fun c1 => ?_)
  rotate_left
  · exact absurd rfl c1
  refine jw_iload (pc' := 1583) jd_law_1581 rfl rfl ?_
  refine jw_if_ne (tgt := 1598) (pc' := 1586) jd_law_1583 (by decide) rfl (fun c2 => ?_) (fun c2 => ?_)
  · refine jw_goto (tgt := 1817) jd_law_1598 (by decide) ?_
    refine jw_sub (lc' := [(0, _), (4, _)]) ⟨rfl, rfl, trivial⟩ ?_
    exact jl_17 hC9 hEnd (by omega) (by omega)
  · exact absurd c2 (by decide)
theorem jl_origin (hC : jl_C o k b0 xs) (hEnd : jl_End nm o k) (h1 : bw_New o μ b) (h2 : bq_At o μ (b + 984) th) (hL : μ (b + 991) = some (.inl (o.2.2.1 4, 1, .inr (.inl f)))) (hkc : kc ≤ 2000) (hks : ks ≤ 20000) : jw_X (mi_lawN nm) o k kc ks 1601 [(0, .ref b0), (1, .ref b), (2, .ref (b + 984)), (3, .ref (b + 991)), (4, .int (nI 0))] [] μ (b + 992) := by
  have hC9 := hC
  obtain ⟨hX, hbl, hbA, hR⟩ := hC
  have h0 := h1.1
  have r0 := h2.1
  refine jw_aload_n (pc' := 1602) jd_law_1601 rfl rfl rfl ?_
  refine jw_aload_n (pc' := 1603) jd_law_1602 rfl rfl rfl ?_
  refine jw_iload (pc' := 1605) jd_law_1603 rfl rfl ?_
  refine jw_iconst (pc' := 1606) (v := nI 1) jd_law_1605 (by decide +kernel) rfl ?_
  refine jw_iadd (pc' := 1607) jd_law_1606 (by decide +kernel : (nI 0 : Int32) + nI 1 = nI 1) rfl ?_
  refine jw_sld (pc' := 1608) hX hbl hbA jd_law_1607 (vp_in_nI (n := 1) (by omega) (by omega)) (congrArg xs (nI_clamp (n := 1) (by omega))) rfl ?_
  refine jw_aload_n (pc' := 1609) jd_law_1608 rfl rfl rfl ?_
  refine jw_iload (pc' := 1611) jd_law_1609 rfl rfl ?_
  refine jw_iconst (pc' := 1612) (v := nI 2) jd_law_1611 (by decide +kernel) rfl ?_
  refine jw_iadd (pc' := 1613) jd_law_1612 (by decide +kernel : (nI 0 : Int32) + nI 2 = nI 2) rfl ?_
  refine jw_sld (pc' := 1614) hX hbl hbA jd_law_1613 (vp_in_nI (n := 2) (by omega) (by omega)) (congrArg xs (nI_clamp (n := 2) (by omega))) rfl ?_
  refine jw_aload_n (pc' := 1615) jd_law_1614 rfl rfl rfl ?_
  refine jw_iload (pc' := 1617) jd_law_1615 rfl rfl ?_
  refine jw_iconst (pc' := 1618) (v := nI 3) jd_law_1617 (by decide +kernel) rfl ?_
  refine jw_iadd (pc' := 1619) jd_law_1618 (by decide +kernel : (nI 0 : Int32) + nI 3 = nI 3) rfl ?_
  refine jw_sld (pc' := 1620) hX hbl hbA jd_law_1619 (vp_in_nI (n := 3) (by omega) (by omega)) (congrArg xs (nI_clamp (n := 3) (by omega))) rfl ?_
  refine jw_aload_n (pc' := 1621) jd_law_1620 rfl rfl rfl ?_
  refine jw_callSH (pc' := 1624) (n := 5) hR (bh_origin h1 hL (by omega) (xs 1) (xs 2) (xs 3)) ⟨jq_1002, jq_1001, jq_54, by decide +kernel, by decide +kernel, by decide +kernel⟩ jq_1000 jd_law_1621 rfl rfl (Nat.le_of_ble_eq_true rfl) (by omega) (by decide) (by omega) (by omega) rfl (fun v μ s9 q9 hle => ?_)
  obtain ⟨rfl, ⟨g, hL, hg⟩, f8⟩ := q9
  have h2 := h2.keep (fun z z1 z2 => f8 z (by omega) (by omega))
  have r0 := h2.1
  refine jw_istore (pc' := 1626) (lc' := [(0, _), (1, _), (2, _), (3, _), (4, _), (5, _)]) jd_law_1624 (Nat.le_of_ble_eq_true rfl) ⟨rfl, rfl, rfl, rfl, rfl, rfl, trivial⟩ rfl ?_
  refine jw_aload_n (pc' := 1627) jd_law_1626 rfl rfl rfl ?_
  refine jw_aload_n (pc' := 1628) jd_law_1627 rfl rfl rfl ?_
  refine jw_iload (pc' := 1630) jd_law_1628 rfl rfl ?_
  refine jw_iconst (pc' := 1631) (v := nI 1) jd_law_1630 (by decide +kernel) rfl ?_
  refine jw_iadd (pc' := 1632) jd_law_1631 (by decide +kernel : (nI 0 : Int32) + nI 1 = nI 1) rfl ?_
  refine jw_sld (pc' := 1633) hX hbl hbA jd_law_1632 (vp_in_nI (n := 1) (by omega) (by omega)) (congrArg xs (nI_clamp (n := 1) (by omega))) rfl ?_
  refine jw_aload_n (pc' := 1634) jd_law_1633 rfl rfl rfl ?_
  refine jw_iload (pc' := 1636) jd_law_1634 rfl rfl ?_
  refine jw_iconst (pc' := 1637) (v := nI 2) jd_law_1636 (by decide +kernel) rfl ?_
  refine jw_iadd (pc' := 1638) jd_law_1637 (by decide +kernel : (nI 0 : Int32) + nI 2 = nI 2) rfl ?_
  refine jw_sld (pc' := 1639) hX hbl hbA jd_law_1638 (vp_in_nI (n := 2) (by omega) (by omega)) (congrArg xs (nI_clamp (n := 2) (by omega))) rfl ?_
  refine jw_aload_n (pc' := 1640) jd_law_1639 rfl rfl rfl ?_
  refine jw_iload (pc' := 1642) jd_law_1640 rfl rfl ?_
  refine jw_iconst (pc' := 1643) (v := nI 3) jd_law_1642 (by decide +kernel) rfl ?_
  refine jw_iadd (pc' := 1644) jd_law_1643 (by decide +kernel : (nI 0 : Int32) + nI 3 = nI 3) rfl ?_
  refine jw_sld (pc' := 1645) hX hbl hbA jd_law_1644 (vp_in_nI (n := 3) (by omega) (by omega)) (congrArg xs (nI_clamp (n := 3) (by omega))) rfl ?_
  refine jw_callV (pc' := 1648) hR (br_origin h2 (xs 1) (xs 2) (xs 3)) jm_BranchworkModel_origin jq_1562 jc_BranchworkModel jd_law_1645 (by assumption) rfl rfl (Nat.le_of_ble_eq_true rfl) (by omega) (by decide) (by omega) (by omega) rfl (fun v μ s8 q8 hle8 => ?_)
  obtain ⟨⟨w, rfl, hw⟩, ⟨c', r0⟩, f7⟩ := q8
  have hL := (f7 _ (by omega) (by omega)).trans hL
  refine jw_istore (pc' := 1650) (lc' := [(0, _), (1, _), (2, _), (3, _), (4, _), (5, _), (6, _)]) jd_law_1648 (Nat.le_of_ble_eq_true rfl) ⟨rfl, rfl, rfl, rfl, rfl, rfl, rfl, trivial⟩ rfl ?_
  refine jw_aload_n (pc' := 1651) jd_law_1650 rfl rfl rfl ?_
  refine jw_callV0 (pc' := 1654) hR (bq_thrown r0) jm_BranchworkModel_thrown jq_1152 jc_BranchworkModel jd_law_1651 (by assumption) rfl rfl (Nat.le_of_ble_eq_true rfl) (by omega) (by decide) (by omega) (by omega) rfl rfl ?_
  refine jw_iload (pc' := 1656) jd_law_1654 rfl rfl ?_
  refine jw_icmp_eq (tgt := 1661) (pc' := 1659) jd_law_1656 (by decide) rfl (fun c1 => ?_) (fun c1 => ?_)
  rotate_left
  · exact absurd rfl c1
  refine jw_iload (pc' := 1663) jd_law_1661 rfl rfl ?_
  refine jw_if_ne (tgt := 1678) (pc' := 1666) jd_law_1663 (by decide) rfl (fun c2 => ?_) (fun c2 => ?_)
  · refine jw_goto (tgt := 1817) jd_law_1678 (by decide) ?_
    refine jw_sub (lc' := [(0, _), (4, _)]) ⟨rfl, rfl, trivial⟩ ?_
    exact jl_17 hC9 hEnd (by omega) (by omega)
  · exact absurd c2 (by decide)
theorem jl_conflictsOf (hC : jl_C o k b0 xs) (hEnd : jl_End nm o k) (h1 : bw_New o μ b) (h2 : bq_At o μ (b + 984) th) (hL : μ (b + 991) = some (.inl (o.2.2.1 4, 1, .inr (.inl f)))) (hkc : kc ≤ 2000) (hks : ks ≤ 20000) : jw_X (mi_lawN nm) o k kc ks 1681 [(0, .ref b0), (1, .ref b), (2, .ref (b + 984)), (3, .ref (b + 991)), (4, .int (nI 0))] [] μ (b + 992) := by
  have hC9 := hC
  obtain ⟨hX, hbl, hbA, hR⟩ := hC
  have h0 := h1.1
  have r0 := h2.1
  refine jw_aload_n (pc' := 1682) jd_law_1681 rfl rfl rfl ?_
  refine jw_aload_n (pc' := 1683) jd_law_1682 rfl rfl rfl ?_
  refine jw_iload (pc' := 1685) jd_law_1683 rfl rfl ?_
  refine jw_iconst (pc' := 1686) (v := nI 1) jd_law_1685 (by decide +kernel) rfl ?_
  refine jw_iadd (pc' := 1687) jd_law_1686 (by decide +kernel : (nI 0 : Int32) + nI 1 = nI 1) rfl ?_
  refine jw_sld (pc' := 1688) hX hbl hbA jd_law_1687 (vp_in_nI (n := 1) (by omega) (by omega)) (congrArg xs (nI_clamp (n := 1) (by omega))) rfl ?_
  refine jw_aload_n (pc' := 1689) jd_law_1688 rfl rfl rfl ?_
  refine jw_iload (pc' := 1691) jd_law_1689 rfl rfl ?_
  refine jw_iconst (pc' := 1692) (v := nI 2) jd_law_1691 (by decide +kernel) rfl ?_
  refine jw_iadd (pc' := 1693) jd_law_1692 (by decide +kernel : (nI 0 : Int32) + nI 2 = nI 2) rfl ?_
  refine jw_sld (pc' := 1694) hX hbl hbA jd_law_1693 (vp_in_nI (n := 2) (by omega) (by omega)) (congrArg xs (nI_clamp (n := 2) (by omega))) rfl ?_
  refine jw_aload_n (pc' := 1695) jd_law_1694 rfl rfl rfl ?_
  refine jw_callSH (pc' := 1698) (n := 4) hR (bh_conflictsOf h1 hL (by omega) (xs 1) (xs 2)) ⟨jq_1018, jq_1017, jq_54, by decide +kernel, by decide +kernel, by decide +kernel⟩ jq_1016 jd_law_1695 rfl rfl (Nat.le_of_ble_eq_true rfl) (by omega) (by decide) (by omega) (by omega) rfl (fun v μ s9 q9 hle => ?_)
  obtain ⟨rfl, ⟨g, hL, hg⟩, f8⟩ := q9
  have h2 := h2.keep (fun z z1 z2 => f8 z (by omega) (by omega))
  have r0 := h2.1
  refine jw_istore (pc' := 1700) (lc' := [(0, _), (1, _), (2, _), (3, _), (4, _), (5, _)]) jd_law_1698 (Nat.le_of_ble_eq_true rfl) ⟨rfl, rfl, rfl, rfl, rfl, rfl, trivial⟩ rfl ?_
  refine jw_aload_n (pc' := 1701) jd_law_1700 rfl rfl rfl ?_
  refine jw_aload_n (pc' := 1702) jd_law_1701 rfl rfl rfl ?_
  refine jw_iload (pc' := 1704) jd_law_1702 rfl rfl ?_
  refine jw_iconst (pc' := 1705) (v := nI 1) jd_law_1704 (by decide +kernel) rfl ?_
  refine jw_iadd (pc' := 1706) jd_law_1705 (by decide +kernel : (nI 0 : Int32) + nI 1 = nI 1) rfl ?_
  refine jw_sld (pc' := 1707) hX hbl hbA jd_law_1706 (vp_in_nI (n := 1) (by omega) (by omega)) (congrArg xs (nI_clamp (n := 1) (by omega))) rfl ?_
  refine jw_aload_n (pc' := 1708) jd_law_1707 rfl rfl rfl ?_
  refine jw_iload (pc' := 1710) jd_law_1708 rfl rfl ?_
  refine jw_iconst (pc' := 1711) (v := nI 2) jd_law_1710 (by decide +kernel) rfl ?_
  refine jw_iadd (pc' := 1712) jd_law_1711 (by decide +kernel : (nI 0 : Int32) + nI 2 = nI 2) rfl ?_
  refine jw_sld (pc' := 1713) hX hbl hbA jd_law_1712 (vp_in_nI (n := 2) (by omega) (by omega)) (congrArg xs (nI_clamp (n := 2) (by omega))) rfl ?_
  refine jw_callV (pc' := 1716) hR (br_conflictsOf h2 (xs 1) (xs 2)) jm_BranchworkModel_conflictsOf jq_1576 jc_BranchworkModel jd_law_1713 (by assumption) rfl rfl (Nat.le_of_ble_eq_true rfl) (by omega) (by decide) (by omega) (by omega) rfl (fun v μ s8 q8 hle8 => ?_)
  obtain ⟨⟨w, rfl, hw⟩, ⟨c', r0⟩, f7⟩ := q8
  have hL := (f7 _ (by omega) (by omega)).trans hL
  refine jw_istore (pc' := 1718) (lc' := [(0, _), (1, _), (2, _), (3, _), (4, _), (5, _), (6, _)]) jd_law_1716 (Nat.le_of_ble_eq_true rfl) ⟨rfl, rfl, rfl, rfl, rfl, rfl, rfl, trivial⟩ rfl ?_
  refine jw_aload_n (pc' := 1719) jd_law_1718 rfl rfl rfl ?_
  refine jw_callV0 (pc' := 1722) hR (bq_thrown r0) jm_BranchworkModel_thrown jq_1152 jc_BranchworkModel jd_law_1719 (by assumption) rfl rfl (Nat.le_of_ble_eq_true rfl) (by omega) (by decide) (by omega) (by omega) rfl rfl ?_
  refine jw_iload (pc' := 1724) jd_law_1722 rfl rfl ?_
  refine jw_icmp_eq (tgt := 1729) (pc' := 1727) jd_law_1724 (by decide) rfl (fun c1 => ?_) (fun c1 => ?_)
  rotate_left
  · exact absurd rfl c1
  refine jw_iload (pc' := 1731) jd_law_1729 rfl rfl ?_
  refine jw_if_ne (tgt := 1746) (pc' := 1734) jd_law_1731 (by decide) rfl (fun c2 => ?_) (fun c2 => ?_)
  · refine jw_goto (tgt := 1817) jd_law_1746 (by decide) ?_
    refine jw_sub (lc' := [(0, _), (4, _)]) ⟨rfl, rfl, trivial⟩ ?_
    exact jl_17 hC9 hEnd (by omega) (by omega)
  · exact absurd c2 (by decide)
theorem jl_collect (hC : jl_C o k b0 xs) (hEnd : jl_End nm o k) (h1 : bw_New o μ b) (h2 : bq_At o μ (b + 984) th) (hL : μ (b + 991) = some (.inl (o.2.2.1 4, 1, .inr (.inl f)))) (hkc : kc ≤ 2000) (hks : ks ≤ 20000) : jw_X (mi_lawN nm) o k kc ks 816 [(0, .ref b0), (1, .ref b), (2, .ref (b + 984)), (3, .ref (b + 991)), (4, .int (nI 0))] [] μ (b + 992) := by
  have hC9 := hC
  obtain ⟨hX, hbl, hbA, hR⟩ := hC
  have h0 := h1.1
  have r0 := h2.1
  refine jw_aload_n (pc' := 817) jd_law_816 rfl rfl rfl ?_
  refine jw_callV (pc' := 820) hR (by_collect h1) jm_Branchwork_collect jq_314 jc_Branchwork jd_law_817 (by assumption) rfl rfl (Nat.le_of_ble_eq_true rfl) (by omega) (by decide) (by omega) (by omega) rfl (fun v μ s9 q9 hle => ?_)
  obtain ⟨rfl, rfl, f8⟩ := q9
  have h2 := h2.keep (fun z z1 z2 => f8 z (by omega))
  have r0 := h2.1
  refine jw_aload_n (pc' := 821) jd_law_820 rfl rfl rfl ?_
  refine jw_callV (pc' := 824) hR (br_collect h2 (by omega)) jm_BranchworkModel_collect jq_1462 jc_BranchworkModel jd_law_821 (by assumption) rfl rfl (Nat.le_of_ble_eq_true rfl) (by omega) (by decide) (by omega) (by omega) rfl (fun v μ s8 q8 hle8 => ?_)
  obtain ⟨⟨w, rfl, hw⟩, -, -⟩ := q8
  obtain rfl := hw rfl
  refine jw_icmp_eq (tgt := 1817) (pc' := 827) jd_law_824 (by decide) rfl (fun c => ?_) (fun c => ?_)
  · refine jw_sub (lc' := [(0, _), (4, _)]) ⟨rfl, rfl, trivial⟩ ?_
    exact jl_17 hC9 hEnd (by omega) (by omega)
  · exact absurd rfl c
theorem jl_garbage (hC : jl_C o k b0 xs) (hEnd : jl_End nm o k) (h1 : bw_New o μ b) (h2 : bq_At o μ (b + 984) th) (hL : μ (b + 991) = some (.inl (o.2.2.1 4, 1, .inr (.inl f)))) (hkc : kc ≤ 2000) (hks : ks ≤ 20000) : jw_X (mi_lawN nm) o k kc ks 1749 [(0, .ref b0), (1, .ref b), (2, .ref (b + 984)), (3, .ref (b + 991)), (4, .int (nI 0))] [] μ (b + 992) := by
  have hC9 := hC
  obtain ⟨hX, hbl, hbA, hR⟩ := hC
  have h0 := h1.1
  have r0 := h2.1
  refine jw_aload_n (pc' := 1750) jd_law_1749 rfl rfl rfl ?_
  refine jw_callV (pc' := 1753) hR (bs_garbage h1) jm_Branchwork_garbage jq_368 jc_Branchwork jd_law_1750 (by assumption) rfl rfl (Nat.le_of_ble_eq_true rfl) (by omega) (by decide) (by omega) (by omega) rfl (fun v μ s9 q9 hle => ?_)
  obtain ⟨rfl, rfl, -, f8⟩ := q9
  have h2 := h2.keep (fun z z1 z2 => f8 z (by omega))
  have r0 := h2.1
  refine jw_aload_n (pc' := 1754) jd_law_1753 rfl rfl rfl ?_
  refine jw_callV (pc' := 1757) hR (br_garbage h2 (by omega)) jm_BranchworkModel_garbage jq_1580 jc_BranchworkModel jd_law_1754 (by assumption) rfl rfl (Nat.le_of_ble_eq_true rfl) (by omega) (by decide) (by omega) (by omega) rfl (fun v μ s8 q8 hle8 => ?_)
  obtain ⟨⟨w, rfl, hw⟩, -, -⟩ := q8
  obtain rfl := hw rfl
  refine jw_icmp_eq (tgt := 1817) (pc' := 1760) jd_law_1757 (by decide) rfl (fun c => ?_) (fun c => ?_)
  · refine jw_sub (lc' := [(0, _), (4, _)]) ⟨rfl, rfl, trivial⟩ ?_
    exact jl_17 hC9 hEnd (by omega) (by omega)
  · exact absurd rfl c
theorem jl_meanLines (hC : jl_C o k b0 xs) (hEnd : jl_End nm o k) (h1 : bw_New o μ b) (h2 : bq_At o μ (b + 984) th) (hL : μ (b + 991) = some (.inl (o.2.2.1 4, 1, .inr (.inl f)))) (hkc : kc ≤ 2000) (hks : ks ≤ 20000) : jw_X (mi_lawN nm) o k kc ks 1762 [(0, .ref b0), (1, .ref b), (2, .ref (b + 984)), (3, .ref (b + 991)), (4, .int (nI 0))] [] μ (b + 992) := by
  have hC9 := hC
  obtain ⟨hX, hbl, hbA, hR⟩ := hC
  have h0 := h1.1
  have r0 := h2.1
  refine jw_aload_n (pc' := 1763) jd_law_1762 rfl rfl rfl ?_
  refine jw_callV (pc' := 1766) hR (by_meanLines h1) jm_Branchwork_meanLines jq_369 jc_Branchwork jd_law_1763 (by assumption) rfl rfl (Nat.le_of_ble_eq_true rfl) (by omega) (by decide) (by omega) (by omega) rfl (fun v μ s9 q9 hle => ?_)
  obtain ⟨rfl, rfl, f8⟩ := q9
  have h2 := h2.keep (fun z z1 z2 => f8 z (by omega))
  have r0 := h2.1
  refine jw_dstore (pc' := 1768) (lc' := [(0, _), (2, _), (4, _), (5, _)]) jd_law_1766 (Nat.le_of_ble_eq_true rfl) ⟨rfl, rfl, rfl, rfl, trivial⟩ rfl ?_
  refine jw_aload_n (pc' := 1769) jd_law_1768 rfl rfl rfl ?_
  refine jw_callV (pc' := 1772) hR (br_meanLines h2 (by omega)) jm_BranchworkModel_meanLines jq_1584 jc_BranchworkModel jd_law_1769 (by assumption) rfl rfl (Nat.le_of_ble_eq_true rfl) (by omega) (by decide) (by omega) (by omega) rfl (fun v μ s8 q8 hle8 => ?_)
  obtain ⟨rfl, -, -⟩ := q8
  refine jw_dstore (pc' := 1774) (lc' := [(0, _), (4, _), (5, _), (7, _)]) jd_law_1772 (Nat.le_of_ble_eq_true rfl) ⟨rfl, rfl, rfl, rfl, trivial⟩ rfl ?_
  refine jw_dload (pc' := 1776) jd_law_1774 rfl rfl ?_
  refine jw_dload (pc' := 1778) jd_law_1776 rfl rfl ?_
  refine jw_dcmp (pc' := 1779) (v := 0) jd_law_1778 (by decide +kernel) rfl ?_
  refine jw_if_eq (tgt := 1800) (pc' := 1782) jd_law_1779 (by decide) rfl (fun c => ?_) (fun c => ?_)
  · refine jw_goto (tgt := 1817) jd_law_1800 (by decide) ?_
    refine jw_sub (lc' := [(0, _), (4, _)]) ⟨rfl, rfl, trivial⟩ ?_
    exact jl_17 hC9 hEnd (by omega) (by omega)
  · exact absurd rfl c
theorem jl_digest (hC : jl_C o k b0 xs) (hEnd : jl_End nm o k) (h1 : bw_New o μ b) (h2 : bq_At o μ (b + 984) th) (hL : μ (b + 991) = some (.inl (o.2.2.1 4, 1, .inr (.inl f)))) (hkc : kc ≤ 2000) (hks : ks ≤ 20000) : jw_X (mi_lawN nm) o k kc ks 1803 [(0, .ref b0), (1, .ref b), (2, .ref (b + 984)), (3, .ref (b + 991)), (4, .int (nI 0))] [] μ (b + 992) := by
  have hC9 := hC
  obtain ⟨hX, hbl, hbA, hR⟩ := hC
  have h0 := h1.1
  have r0 := h2.1
  refine jw_aload_n (pc' := 1804) jd_law_1803 rfl rfl rfl ?_
  refine jw_callV (pc' := 1807) hR (by_digest h1) jm_Branchwork_digest jq_390 jc_Branchwork jd_law_1804 (by assumption) rfl rfl (Nat.le_of_ble_eq_true rfl) (by omega) (by decide) (by omega) (by omega) rfl (fun v μ s9 q9 hle => ?_)
  obtain ⟨rfl, rfl, f8⟩ := q9
  have h2 := h2.keep (fun z z1 z2 => f8 z (by omega))
  have r0 := h2.1
  refine jw_aload_n (pc' := 1808) jd_law_1807 rfl rfl rfl ?_
  refine jw_callV (pc' := 1811) hR (br_digest h2 (by omega)) jm_BranchworkModel_digest jq_1588 jc_BranchworkModel jd_law_1808 (by assumption) rfl rfl (Nat.le_of_ble_eq_true rfl) (by omega) (by decide) (by omega) (by omega) rfl (fun v μ s8 q8 hle8 => ?_)
  obtain ⟨rfl, -, -⟩ := q8
  refine jw_lcmp (pc' := 1812) jd_law_1811 (jv_cmp _) rfl ?_
  refine jw_if_eq (tgt := 1817) (pc' := 1815) jd_law_1812 (by decide) rfl (fun c => ?_) (fun c => ?_)
  · refine jw_sub (lc' := [(0, _), (4, _)]) ⟨rfl, rfl, trivial⟩ ?_
    exact jl_17 hC9 hEnd (by omega) (by omega)
  · exact absurd rfl c
/-- from the law's entry to its end -/
theorem jl_body {hs L0 : Nat} (hX : va_X b0 L0 xs k.2.2.2.1 k.2.2.2.1.heap) (hbl : b0 < k.2.2.2.1.heap.size) (hbA : ¬ o.2.2.2.1 ≤ b0) (hL5 : L0 ≤ 5) (hR : jw_Rm k 100 611184 7268683) (hEnd : jl_End nm o k) : jw_X (mi_lawN nm) o k 0 0 0 [(0, .ref b0)] [] (fun _ => none) hs := by
  refine jw_new (pc' := 3) (fs := [.null, .null, .null, .null, .null, .null, .null, .int 0, .int 0, .int 0]) hR jc_Branchwork jq_85 jq_86 jq_55 jd_law_0 (by decide +kernel) (by omega) (by omega) rfl (fun μ h0 f9 => ?_)
  refine jw_dup (pc' := 4) jd_law_3 rfl rfl ?_
  refine jw_callI (pc' := 7) hR (bw_init h0) jm_Branchwork_init jq_87 jd_law_4 rfl rfl (Nat.le_of_ble_eq_true rfl) (by omega) (by decide) (by omega) (by omega) rfl (fun v μ s9 q9 hle => ?_)
  obtain ⟨rfl, rfl, h1, f8⟩ := q9
  refine jw_astore_n (pc' := 8) (lc' := [(0, _), (1, _)]) jd_law_7 rfl (Nat.le_of_ble_eq_true rfl) ⟨rfl, rfl, trivial⟩ rfl ?_
  refine jw_new (pc' := 11) (fs := [.int 0, .null, .null, .int 0, .null, .null, .null]) hR jc_BranchworkModel jq_1023 jq_1024 jq_65 jd_law_8 (by decide +kernel) (by omega) (by omega) rfl (fun μ r0 f9 => ?_)
  refine jw_dup (pc' := 12) jd_law_11 rfl rfl ?_
  have h1 := h1.fr (jw_Fr.o f9) (by omega)
  refine jw_callI (pc' := 15) hR (bq_init (x5 := .null) (p := 0) (q := 0) r0) jm_BranchworkModel_init jq_1025 jd_law_12 rfl rfl (Nat.le_of_ble_eq_true rfl) (by omega) (by decide) (by omega) (by omega) rfl (fun v μ s9 q9 hle => ?_)
  obtain ⟨rfl, rfl, h2, f7⟩ := q9
  have h1 := h1.fr f7 (by omega)
  refine jw_astore_n (pc' := 16) (lc' := [(0, _), (1, _), (2, _)]) jd_law_15 rfl (Nat.le_of_ble_eq_true rfl) ⟨rfl, rfl, rfl, trivial⟩ rfl ?_
  refine jw_iconst (pc' := 17) (v := nI 1) jd_law_16 (by decide +kernel) rfl ?_
  refine jw_newa (pc' := 19) (N := 1) (i := 4) (a0 := (1, .inr (.inl (fun _ => 0)))) (ty := .long) (atype := .long) hR jq_1601 rfl rfl jd_law_17 (fun _ => rfl) (by decide +kernel) (by decide +kernel) (by decide +kernel) (by omega) (by omega) rfl (fun μ hL f9 => ?_)
  refine jw_astore_n (pc' := 20) (lc' := [(0, _), (1, _), (2, _), (3, _)]) jd_law_19 rfl (Nat.le_of_ble_eq_true rfl) ⟨rfl, rfl, rfl, rfl, trivial⟩ rfl ?_
  refine jw_iconst (pc' := 21) (v := nI 0) jd_law_20 (by decide +kernel) rfl ?_
  refine jw_istore (pc' := 23) (lc' := [(0, _), (1, _), (2, _), (3, _), (4, _)]) jd_law_21 (Nat.le_of_ble_eq_true rfl) ⟨rfl, rfl, rfl, rfl, rfl, trivial⟩ rfl ?_
  have h1 := h1.fr (jw_Fr.o f9) (by omega)
  have h2 := h2.o f9 (by omega)
  refine jw_iload (pc' := 25) jd_law_23 rfl rfl ?_
  refine jw_aload_n (pc' := 26) jd_law_25 rfl rfl rfl ?_
  refine jw_slen (pc' := 27) hX hbl hbA jd_law_26 rfl rfl ?_
  refine jw_iconst (pc' := 28) (v := nI 5) jd_law_27 (by decide +kernel) rfl ?_
  refine jw_isub (pc' := 29) jd_law_28 rfl rfl ?_
  by_cases hL0 : L0 = 5
  rotate_left
  · refine jw_icmp_gt (tgt := 1823) (pc' := 32) jd_law_29 (by decide) rfl (fun c => ?_) (fun c => ?_)
    · exact hEnd _ _ _ _ _ (by omega) (by omega)
    · rcases (by omega : L0 = 0 ∨ L0 = 1 ∨ L0 = 2 ∨ L0 = 3 ∨ L0 = 4) with rfl | rfl | rfl | rfl | rfl <;> exact absurd (by decide +kernel) c
  subst hL0
  have hC : jl_C o k b0 xs := ⟨hX, hbl, hbA, hR⟩
  refine jw_icmp_gt (tgt := 1823) (pc' := 32) jd_law_29 (by decide) rfl (fun c => ?_) (fun c => ?_)
  · exact absurd c (by decide +kernel)
  obtain ⟨w, hw⟩ : ∃ w, xs 0 &&& nI 31 = w := ⟨_, rfl⟩
  refine jw_aload_n (pc' := 33) jd_law_32 rfl rfl rfl ?_
  refine jw_iload (pc' := 35) jd_law_33 rfl rfl ?_
  refine jw_sld (pc' := 36) hX hbl hbA jd_law_35 (vp_in_nI (n := 0) (by omega) (by omega)) (congrArg xs (nI_clamp (n := 0) (by omega))) rfl ?_
  refine jw_bipush (pc' := 38) (v := nI 31) jd_law_36 (by decide +kernel) rfl ?_
  refine jw_iand (pc' := 39) jd_law_38 hw rfl ?_
  rcases jx_small 27 (by omega) w with ⟨hx, hx2⟩ | ⟨j, hj, rfl⟩
  · refine jw_tableOut (tgt := 1817) jd_law_39 hx2 (by decide) ?_
    refine jw_sub (lc' := [(0, _), (4, _)]) ⟨rfl, rfl, trivial⟩ ?_
    exact jl_17 hC hEnd (by omega) (by omega)
  rcases (by omega : j = 0 ∨ j = 1 ∨ j = 2 ∨ j = 3 ∨ j = 4 ∨ j = 5 ∨ j = 6 ∨ j = 7 ∨ j = 8 ∨ j = 9 ∨ j = 10 ∨ j = 11 ∨ j = 12 ∨ j = 13 ∨ j = 14 ∨ j = 15 ∨ j = 16 ∨ j = 17 ∨ j = 18 ∨ j = 19 ∨ j = 20 ∨ j = 21 ∨ j = 22 ∨ j = 23 ∨ j = 24 ∨ j = 25 ∨ j = 26 ∨ j = 27) with rfl | rfl | rfl | rfl | rfl | rfl | rfl | rfl | rfl | rfl | rfl | rfl | rfl | rfl | rfl | rfl | rfl | rfl | rfl | rfl | rfl | rfl | rfl | rfl | rfl | rfl | rfl | rfl
  · refine jw_tableIn (off := 125) (tgt := 164) jd_law_39 (by decide) (by decide) (by decide) (by decide) ?_
    exact jl_put hC hEnd h1 h2 hL (by omega) (by omega)
  · refine jw_tableIn (off := 205) (tgt := 244) jd_law_39 (by decide) (by decide) (by decide) (by decide) ?_
    exact jl_cut hC hEnd h1 h2 hL (by omega) (by omega)
  · refine jw_tableIn (off := 273) (tgt := 312) jd_law_39 (by decide) (by decide) (by decide) (by decide) ?_
    exact jl_rename hC hEnd h1 h2 hL (by omega) (by omega)
  · refine jw_tableIn (off := 341) (tgt := 380) jd_law_39 (by decide) (by decide) (by decide) (by decide) ?_
    exact jl_remove hC hEnd h1 h2 hL (by omega) (by omega)
  · refine jw_tableIn (off := 397) (tgt := 436) jd_law_39 (by decide) (by decide) (by decide) (by decide) ?_
    exact jl_status hC hEnd h1 h2 hL (by omega) (by omega)
  · refine jw_tableIn (off := 453) (tgt := 492) jd_law_39 (by decide) (by decide) (by decide) (by decide) ?_
    exact jl_commit hC hEnd h1 h2 hL (by omega) (by omega)
  · refine jw_tableIn (off := 509) (tgt := 548) jd_law_39 (by decide) (by decide) (by decide) (by decide) ?_
    exact jl_branch hC hEnd h1 h2 hL (by omega) (by omega)
  · refine jw_tableIn (off := 553) (tgt := 592) jd_law_39 (by decide) (by decide) (by decide) (by decide) ?_
    exact jl_change hC hEnd h1 h2 hL (by omega) (by omega)
  · refine jw_tableIn (off := 609) (tgt := 648) jd_law_39 (by decide) (by decide) (by decide) (by decide) ?_
    exact jl_reset hC hEnd h1 h2 hL (by omega) (by omega)
  · refine jw_tableIn (off := 665) (tgt := 704) jd_law_39 (by decide) (by decide) (by decide) (by decide) ?_
    exact jl_merge hC hEnd h1 h2 hL (by omega) (by omega)
  · refine jw_tableIn (off := 721) (tgt := 760) jd_law_39 (by decide) (by decide) (by decide) (by decide) ?_
    exact jl_settle hC hEnd h1 h2 hL (by omega) (by omega)
  · refine jw_tableIn (off := 777) (tgt := 816) jd_law_39 (by decide) (by decide) (by decide) (by decide) ?_
    exact jl_collect hC hEnd h1 h2 hL (by omega) (by omega)
  · refine jw_tableIn (off := 790) (tgt := 829) jd_law_39 (by decide) (by decide) (by decide) (by decide) ?_
    exact jl_many hC hEnd h1 h2 hL (by omega) (by omega)
  · refine jw_tableIn (off := 846) (tgt := 885) jd_law_39 (by decide) (by decide) (by decide) (by decide) ?_
    exact jl_now hC hEnd h1 h2 hL (by omega) (by omega)
  · refine jw_tableIn (off := 902) (tgt := 941) jd_law_39 (by decide) (by decide) (by decide) (by decide) ?_
    exact jl_at hC hEnd h1 h2 hL (by omega) (by omega)
  · refine jw_tableIn (off := 958) (tgt := 997) jd_law_39 (by decide) (by decide) (by decide) (by decide) ?_
    exact jl_ofCommit hC hEnd h1 h2 hL (by omega) (by omega)
  · refine jw_tableIn (off := 1026) (tgt := 1065) jd_law_39 (by decide) (by decide) (by decide) (by decide) ?_
    exact jl_line hC hEnd h1 h2 hL (by omega) (by omega)
  · refine jw_tableIn (off := 1106) (tgt := 1145) jd_law_39 (by decide) (by decide) (by decide) (by decide) ?_
    exact jl_size hC hEnd h1 h2 hL (by omega) (by omega)
  · refine jw_tableIn (off := 1174) (tgt := 1213) jd_law_39 (by decide) (by decide) (by decide) (by decide) ?_
    exact jl_conflict hC hEnd h1 h2 hL (by omega) (by omega)
  · refine jw_tableIn (off := 1242) (tgt := 1281) jd_law_39 (by decide) (by decide) (by decide) (by decide) ?_
    exact jl_base hC hEnd h1 h2 hL (by omega) (by omega)
  · refine jw_tableIn (off := 1310) (tgt := 1349) jd_law_39 (by decide) (by decide) (by decide) (by decide) ?_
    exact jl_went hC hEnd h1 h2 hL (by omega) (by omega)
  · refine jw_tableIn (off := 1390) (tgt := 1429) jd_law_39 (by decide) (by decide) (by decide) (by decide) ?_
    exact jl_changes hC hEnd h1 h2 hL (by omega) (by omega)
  · refine jw_tableIn (off := 1470) (tgt := 1509) jd_law_39 (by decide) (by decide) (by decide) (by decide) ?_
    exact jl_nearness hC hEnd h1 h2 hL (by omega) (by omega)
  · refine jw_tableIn (off := 1562) (tgt := 1601) jd_law_39 (by decide) (by decide) (by decide) (by decide) ?_
    exact jl_origin hC hEnd h1 h2 hL (by omega) (by omega)
  · refine jw_tableIn (off := 1642) (tgt := 1681) jd_law_39 (by decide) (by decide) (by decide) (by decide) ?_
    exact jl_conflictsOf hC hEnd h1 h2 hL (by omega) (by omega)
  · refine jw_tableIn (off := 1710) (tgt := 1749) jd_law_39 (by decide) (by decide) (by decide) (by decide) ?_
    exact jl_garbage hC hEnd h1 h2 hL (by omega) (by omega)
  · refine jw_tableIn (off := 1723) (tgt := 1762) jd_law_39 (by decide) (by decide) (by decide) (by decide) ?_
    exact jl_meanLines hC hEnd h1 h2 hL (by omega) (by omega)
  · refine jw_tableIn (off := 1764) (tgt := 1803) jd_law_39 (by decide) (by decide) (by decide) (by decide) ?_
    exact jl_digest hC hEnd h1 h2 hL (by omega) (by omega)
end
