/-! what the constructors leave, as numbers -/
def sig (μ : jw_Mem) : zS := fun a => match μ a with
  | some (.inr (_, fs)) => fun i => match fs[i]? with
    | some (.int x) => x
    | _ => 0
  | some (.inl (_, _, .inl f)) => f
  | _ => fun _ => 0
def zeq (e0 e : va_E) : Prop := e0 = e ∨ ∃ (c : ClassId) (n : Nat) (f f' : Nat → Option Nat), e0 = .inl (c, n, .inr (.inr (.inr (.inr f)))) ∧ e = .inl (c, n, .inr (.inr (.inr (.inr f')))) ∧ ∀ j, j < n → f j = f' j
theorem z_arrV {c : ClassId} {n : Nat} {f g : Nat → Value} (h : ∀ j, j < n → f j = g j) : arrV c n f = arrV c n g := by
  unfold arrV
  congr 2
  funext j
  exact h j.val j.isLt
theorem zeq.at {D : va_G} {H : Heap} {a : Nat} {e0 e : va_E} (h : zeq e0 e) (x : va_at D jw_cl (a, e0) H) : va_at D jw_cl (a, e) H := by
  rcases h with rfl | ⟨c, n, f, f', rfl, rfl, hf⟩
  · exact x
  · have x : H[a]? = some (vp_cell c (n, .inr (.inr (.inr (.inr f))))) := x
    show H[a]? = some (vp_cell c (n, .inr (.inr (.inr (.inr f')))))
    rw [x, vp_cell_q, vp_cell_q, z_arrV (fun j hj => by rw [hf j hj])]
theorem jw_less2 {mi : jw_M} {o : jw_O} {k : jw_K} {kc ks pc : Nat} {lc : List (Nat × Value)} {st : List Value} {μ μ' : jw_Mem} {hs : Nat} (h : ∀ a e, μ' a = some e → ∃ e0, μ a = some e0 ∧ zeq e0 e) (kk : jw_X mi o k kc ks pc lc st μ' hs) : jw_X mi o k kc ks pc lc st μ hs := fun C H locs ls e1 e2 e3 e4 => kk C H locs ls e1 (fun a e q => by
  obtain ⟨e0, h1, h2⟩ := h a e q
  exact ⟨(e2 a e0 h1).1, h2.at (e2 a e0 h1).2⟩) e3 e4
def shK (o : jw_O) (μ : jw_Mem) (j : Nat) : Prop := ∃ r e0, zt[j]? = some r ∧ μ (zb o + j) = some e0 ∧ zeq e0 (ze o (sig μ) (zb o + j) r)
section
variable {o : jw_O} {μ : jw_Mem} {j : Nat}
theorem sig_o {a ci : Nat} {fs : List Value} (h : μ a = some (.inr (ci, fs))) : sig μ a = fun i => match fs[i]? with
    | some (.int x) => x
    | _ => 0 := by
  unfold sig
  rw [h]
theorem sig_a {a n : Nat} {c : ClassId} {f : Nat → Int32} (h : μ a = some (.inl (c, n, .inl f))) : sig μ a = f := by
  unfold sig
  rw [h]
theorem sh_i {n : Nat} {f : Nat → Int32} (hz : zt[j]? = some (20, n, [])) (h : μ (zb o + j) = some (.inl (o.2.2.1 0, n, .inl f))) : shK o μ j := ⟨_, _, hz, h, Or.inl (by simp only [ze]; rw [sig_a h])⟩
theorem sh_z {n : Nat} {f : Nat → Int32} (hz : zt[j]? = some (21, n, [])) (h : μ (zb o + j) = some (.inl (o.2.2.1 1, n, .inl f))) : shK o μ j := ⟨_, _, hz, h, Or.inl (by simp only [ze]; rw [sig_a h])⟩
theorem sh_C {n : Nat} {p : Int32} {g : Nat → Int32} (hz : sC j) (h : bc_At o μ (zb o + j) n p g) : shK o μ j ∧ shK o μ (j + 1) := by
  obtain ⟨h1, h2⟩ := h
  refine ⟨⟨_, _, hz.1, h1, Or.inl ?_⟩, sh_i hz.2 h2⟩
  simp only [ze, zf]
  rw [sig_o h1]
  rfl
theorem sh_T {N : Nat → Nat} {Z : Nat → Int32} {G : Nat → Nat → Int32} (hz : sT j) (h : bt_At o μ (zb o + j) N Z G) (i : Nat) (hi : i < 28) : shK o μ (j + i) := by
  obtain ⟨z1, z2, z3⟩ := hz
  obtain ⟨h1, ⟨F, h2, h3⟩, h4, h5, -⟩ := h
  by_cases e0 : i = 0
  · subst e0
    refine ⟨_, _, z1, h1, Or.inl ?_⟩
    simp only [ze, zf]
    rfl
  by_cases e1 : i = 1
  · subst e1
    refine ⟨_, _, z2, h2, Or.inr ⟨_, _, _, _, rfl, rfl, fun p hp => ?_⟩⟩
    rw [h3 p hp, List.getElem?_map, List.getElem?_range hp]
    show some _ = some (zb o + (j + 4 + 2 * p))
    congr 1
    omega
  have key : ∀ p, p < 13 → shK o μ (j + 2 + 2 * p) ∧ shK o μ (j + 2 + 2 * p + 1) := by
    intro p hp
    have hc : sC (j + 2 + 2 * p) := z3 p hp
    by_cases ep : p = 0
    · subst ep
      exact sh_C hc h4
    · have h6 := h5 (p - 1) (by omega)
      rw [show zb o + j + 4 + 2 * (p - 1) = zb o + (j + 2 + 2 * p) by omega] at h6
      exact sh_C hc h6
  by_cases ev : i % 2 = 0
  · have := (key ((i - 2) / 2) (by omega)).1
    rw [show j + 2 + 2 * ((i - 2) / 2) = j + i by omega] at this
    exact this
  · have := (key ((i - 2) / 2) (by omega)).2
    rw [show j + 2 + 2 * ((i - 2) / 2) + 1 = j + i by omega] at this
    exact this
theorem sh_M (hz : sM j) (h : bm_At o μ (zb o + j)) (i : Nat) (hi : i < 4) : shK o μ (j + i) := by
  obtain ⟨z1, z2, z3, z4⟩ := hz
  obtain ⟨h1, ⟨_, h2⟩, ⟨_, h3⟩, ⟨_, h4⟩⟩ := h
  rcases (by omega : i = 0 ∨ i = 1 ∨ i = 2 ∨ i = 3) with rfl | rfl | rfl | rfl
  · exact ⟨_, _, z1, h1, Or.inl (by simp only [ze, zf]; rfl)⟩
  · exact sh_i z2 h2
  · exact sh_i z3 h3
  · exact sh_i z4 h4
theorem sh_R {f s : Nat → Int32} {c : Int32} (hz : sR j) (h : bn_At o μ (zb o + j) f s c) (i : Nat) (hi : i < 7) : shK o μ (j + i) := by
  obtain ⟨z1, z2, z3, z4, z5, z6, z7⟩ := hz
  obtain ⟨h1, h2, h3, h4⟩ := h
  by_cases e : i < 3
  · rcases (by omega : i = 0 ∨ i = 1 ∨ i = 2) with rfl | rfl | rfl
    · refine ⟨_, _, z1, h1, Or.inl ?_⟩
      simp only [ze, zf, Nat.add_zero]
      rw [sig_o h1]
      rfl
    · exact sh_i z2 h2
    · exact sh_i z3 h3
  · have := sh_M (o := o) (μ := μ) (j := j + 3) ⟨z4, z5, z6, z7⟩ h4 (i - 3) (by omega)
    rw [show j + 3 + (i - 3) = j + i by omega] at this
    exact this
theorem sh_K {n : Nat} {f s : Nat → Int32} (hz : sK j) (h : bk_At o μ (zb o + j) n f s) (i : Nat) (hi : i < 3) : shK o μ (j + i) := by
  obtain ⟨z1, z2, z3⟩ := hz
  obtain ⟨h1, h2, h3⟩ := h
  rcases (by omega : i = 0 ∨ i = 1 ∨ i = 2) with rfl | rfl | rfl
  · refine ⟨_, _, z1, h1, Or.inl ?_⟩
    simp only [ze, zf, Nat.add_zero]
    rw [sig_o h1]
    rfl
  · exact sh_i z2 h2
  · exact sh_i z3 h3
theorem zt_len : zt.length = 984 := by decide +kernel
theorem sh_all (h : bw_New o μ (zb o)) (hj : j < 984) : shK o μ j := by
  obtain ⟨h1, h2, ⟨g1, ⟨F, g2, g3⟩, g4, g5, g6, g7, g8, g9, ⟨_, g10⟩, g11⟩, ⟨m1, m2, m3, ⟨_, _, _, m4⟩, ⟨_, _, _, m5⟩, ⟨b1, b2, b3, ⟨_, _, _, b4, -⟩, ⟨_, _, _, b5, -⟩, ⟨_, _, _, b6, -⟩⟩, m7, ⟨_, m8⟩⟩, h5, h6, h7, ⟨_, h8, -⟩⟩ := h
  by_cases c0 : j = 0
  · subst c0
    refine ⟨(8, 0, [2, 30, 906, 970, 973, 980, 984, 0, 0, 0]), _, by decide +kernel, h1, Or.inl ?_⟩
    simp only [ze, zf, Nat.add_zero]
    rw [sig_o h1]
    rfl
  by_cases c1 : j < 29
  · have := sh_T (o := o) (μ := μ) (j := 1) (by unfold sT; decide +kernel) h2 (j - 1) (by omega)
    rw [show 1 + (j - 1) = j by omega] at this
    exact this
  by_cases c2 : j = 29
  · subst c2
    refine ⟨(7, 0, [31, 32, 60, 61, 62, 63, 64, 65, 0, 0]), _, by decide +kernel, g1, Or.inl ?_⟩
    simp only [ze, zf]
    rw [sig_o g1]
    rfl
  by_cases c3 : j = 30
  · subst c3
    refine ⟨_, _, zt_trees, g2, Or.inr ⟨_, _, _, _, rfl, rfl, fun p hp => ?_⟩⟩
    rw [g3 p hp, List.getElem?_map, List.getElem?_range hp]
    show some _ = some (zb o + (65 + 28 * p))
    congr 1
    omega
  by_cases c4 : j < 59
  · have := sh_T (o := o) (μ := μ) (j := 31) (by unfold sT; decide +kernel) g4 (j - 31) (by omega)
    rw [show 31 + (j - 31) = j by omega] at this
    exact this
  by_cases c5 : j < 65
  · rcases (by omega : j = 59 ∨ j = 60 ∨ j = 61 ∨ j = 62 ∨ j = 63 ∨ j = 64) with rfl | rfl | rfl | rfl | rfl | rfl
    · exact sh_i (by decide +kernel) g5
    · exact sh_i (by decide +kernel) g6
    · exact sh_i (by decide +kernel) g7
    · exact sh_i (by decide +kernel) g8
    · exact sh_i (by decide +kernel) g9
    · exact sh_i (by decide +kernel) g10
  by_cases c6 : j < 905
  · have ht := g11 ((j - 65) / 28) (by omega)
    rw [show zb o + 29 + 36 + 28 * ((j - 65) / 28) = zb o + (65 + 28 * ((j - 65) / 28)) by omega] at ht
    have := sh_T (zt_tree ((j - 65) / 28) (by omega)) ht ((j - 65) % 28) (by omega)
    rw [show 65 + 28 * ((j - 65) / 28) + (j - 65) % 28 = j by omega] at this
    exact this
  by_cases c7 : j = 905
  · subst c7
    refine ⟨(6, 0, [907, 935, 938, 945, 952, 967, 969]), _, by decide +kernel, m1, Or.inl ?_⟩
    simp only [ze, zf]
  by_cases c8 : j < 934
  · have := sh_T (o := o) (μ := μ) (j := 906) (by unfold sT; decide +kernel) m2 (j - 906) (by omega)
    rw [show 906 + (j - 906) = j by omega] at this
    exact this
  by_cases c9 : j < 937
  · have := sh_K (o := o) (μ := μ) (j := 934) (by unfold sK; decide +kernel) m3 (j - 934) (by omega)
    rw [show 934 + (j - 934) = j by omega] at this
    exact this
  by_cases c10 : j < 944
  · have := sh_R (o := o) (μ := μ) (j := 937) (by unfold sR; decide +kernel) m4 (j - 937) (by omega)
    rw [show 937 + (j - 937) = j by omega] at this
    exact this
  by_cases c11 : j < 951
  · have := sh_R (o := o) (μ := μ) (j := 944) (by unfold sR; decide +kernel) m5 (j - 944) (by omega)
    rw [show 944 + (j - 944) = j by omega] at this
    exact this
  by_cases c12 : j = 951
  · subst c12
    refine ⟨(4, 0, [953, 957, 961, 963, 965]), _, by decide +kernel, b1, Or.inl ?_⟩
    simp only [ze, zf]
  by_cases c13 : j < 956
  · have := sh_M (o := o) (μ := μ) (j := 952) (by unfold sM; decide +kernel) b2 (j - 952) (by omega)
    rw [show 952 + (j - 952) = j by omega] at this
    exact this
  by_cases c14 : j < 960
  · have := sh_M (o := o) (μ := μ) (j := 956) (by unfold sM; decide +kernel) b3 (j - 956) (by omega)
    rw [show 956 + (j - 956) = j by omega] at this
    exact this
  by_cases c15 : j < 968
  · have k1 := sh_C (o := o) (μ := μ) (j := 960) (by unfold sC; decide +kernel) b4
    have k2 := sh_C (o := o) (μ := μ) (j := 962) (by unfold sC; decide +kernel) b5
    have k3 := sh_C (o := o) (μ := μ) (j := 964) (by unfold sC; decide +kernel) b6
    have k4 := sh_C (o := o) (μ := μ) (j := 966) (by unfold sC; decide +kernel) m7
    rcases (by omega : j = 960 ∨ j = 961 ∨ j = 962 ∨ j = 963 ∨ j = 964 ∨ j = 965 ∨ j = 966 ∨ j = 967) with rfl | rfl | rfl | rfl | rfl | rfl | rfl | rfl
    · exact k1.1
    · exact k1.2
    · exact k2.1
    · exact k2.2
    · exact k3.1
    · exact k3.2
    · exact k4.1
    · exact k4.2
  by_cases c16 : j = 968
  · subst c16
    exact sh_z (by decide +kernel) m8
  by_cases c17 : j < 972
  · have := sh_K (o := o) (μ := μ) (j := 969) (by unfold sK; decide +kernel) h5 (j - 969) (by omega)
    rw [show 969 + (j - 969) = j by omega] at this
    exact this
  by_cases c18 : j < 979
  · have := sh_R (o := o) (μ := μ) (j := 972) (by unfold sR; decide +kernel) h6 (j - 972) (by omega)
    rw [show 972 + (j - 972) = j by omega] at this
    exact this
  by_cases c19 : j < 983
  · have := sh_M (o := o) (μ := μ) (j := 979) (by unfold sM; decide +kernel) h7 (j - 979) (by omega)
    rw [show 979 + (j - 979) = j by omega] at this
    exact this
  · obtain rfl : j = 983 := by omega
    exact sh_i (by decide +kernel) h8
theorem mm_sig (h : bw_New o μ (zb o)) (a : Nat) (e : va_E) (ha : mm o (sig μ) a = some e) : ∃ e0, μ a = some e0 ∧ zeq e0 e := by
  unfold mm at ha
  split at ha
  · cases ha
  · rename_i hlt
    obtain ⟨j, rfl⟩ : ∃ j, a = zb o + j := ⟨a - zb o, by omega⟩
    rw [Nat.add_sub_cancel_left] at ha
    cases hz : zt[j]? with
    | none => rw [hz] at ha; cases ha
    | some r =>
      rw [hz] at ha
      have hj : j < 984 := by rw [← zt_len]; exact (List.getElem?_eq_some_iff.mp hz).1
      obtain ⟨r2, e0, h1, h2, h3⟩ := sh_all h hj
      rw [hz] at h1
      cases h1
      have ha : ze o (sig μ) (zb o + j) r = e := Option.some.inj ha
      exact ⟨e0, h2, ha ▸ h3⟩
theorem VC_sig {c : Nat} {g : Nat → Int32} (hc : isC o c) (h : bc_At o μ c 0 0 g) : VC o (sig μ) c v0 := by
  obtain ⟨h1, h2⟩ := h
  refine ⟨hc, v0_ok, ?_, ?_, fun j hj => absurd hj (by simp [v0])⟩
  · unfold iv; rw [sig_o h1]; rfl
  · unfold iv; rw [sig_o h1]; rfl
theorem TC_sig {t : Nat} (ht : isT o t) (h : bt_At o μ t (fun _ => 0) (fun _ => 0) (fun _ _ => 0)) : TC o (sig μ) t (fun _ => v0) := by
  obtain ⟨h1, h2, h4, h5, -⟩ := h
  exact ⟨ht, fun p hp => VC_sig (ht.f hp) (h5 p hp)⟩
theorem SL_sig (h : bw_New o μ (zb o)) : SL o (sig μ) 0 1 := by
  obtain ⟨h1, h2, ⟨g1, ⟨F, g2, g3⟩, g4, g5, g6, g7, g8, g9, ⟨_, g10⟩, g11⟩, ⟨m1, m2, m3, ⟨_, _, _, m4⟩, ⟨_, _, _, m5⟩, mb, m7, ⟨_, m8⟩⟩, ⟨k1, k2, k3⟩, h6, h7, ⟨ft, h8, h9⟩⟩ := h
  refine ⟨fun _ => v0, fun _ _ => v0, fun i => iv (sig μ) (zb o + 60) i, fun i => iv (sig μ) (zb o + 61) i, fun i => iv (sig μ) (zb o + 62) i, fun i => iv (sig μ) (zb o + 63) i, 0, (0, fun _ => (0, 0)), fun _ => -1, 0, -1, ⟨TC_sig isT_work h2, TC_sig isT_none g4, fun i hi => ?_, ⟨fun i hi => rfl, fun i hi => rfl, fun i hi => rfl, fun i hi => rfl, ?_, ?_, by omega, by decide⟩, ⟨isK_own, by simp, ?_, fun j hj => absurd hj (by simp)⟩, VC_sig isC_none m7, fun i hi => ?_, ?_, ?_, ?_⟩, ⟨fun i hi => absurd hi (by omega), fun j hj => ?_, by omega, by omega, by omega, fun i => by simp, by omega, by omega, by omega⟩, rfl, fun j => by simp, by omega, Or.inl ⟨rfl, rfl, rfl, rfl⟩⟩
  · exact TC_sig (isT_i hi) (by have := g11 i hi; rw [show zb o + 29 + 36 + 28 * i = tA o i by unfold tA; omega] at this; exact this)
  · unfold iv; rw [sig_o g1]; rfl
  · unfold iv; rw [sig_o g1]; rfl
  · unfold iv; rw [sig_o k1]; rfl
  · unfold iv; rw [sig_a h8, h9 i hi]; rfl
  · unfold iv; rw [show sig μ (zb o) = _ from sig_o h1]; rfl
  · unfold iv; rw [show sig μ (zb o) = _ from sig_o h1]; rfl
  · unfold iv; rw [show sig μ (zb o) = _ from sig_o h1]; rfl
  · rw [Nat.zero_testBit] at hj; cases hj
end
section
variable {o : jw_O} {k : jw_K} {nm : String}
/-- from the law's entry to its end -/
theorem law_0 (hR : jw_Rm k 10 604185 7289070) (hEnd : ∀ (kc ks : Nat) (lc : List (Nat × Value)) (μ : jw_Mem) (hs : Nat), kc ≤ 604185 → ks ≤ 7289070 → jw_X (mi_lawN nm) o k kc ks 1099 lc [] μ hs) : jw_X (mi_lawN nm) o k 0 0 0 [(0, .ref o.2.2.2.2)] [] (fun _ => none) (zb o) := by
  refine jw_new (pc' := 3) (fs := [.null, .null, .null, .null, .null, .null, .null, .int 0, .int 0, .int 0]) hR jc_Branchwork jq_41 jq_42 jq_23 jd_law_0 (by decide +kernel) (by omega) (by omega) rfl (fun μ h0 f9 => ?_)
  refine jw_dup (pc' := 4) jd_law_3 rfl rfl ?_
  refine jw_callI (pc' := 7) hR (bw_init h0) jm_Branchwork_init jq_43 jd_law_4 rfl rfl (Nat.le_of_ble_eq_true rfl) (by omega) (by decide) (by omega) (by omega) rfl (fun v μ s9 q9 hle => ?_)
  obtain ⟨rfl, rfl, h1, f8⟩ := q9
  refine jw_astore_n (pc' := 8) (lc' := [(0, _), (1, _)]) jd_law_7 rfl (Nat.le_of_ble_eq_true rfl) ⟨rfl, rfl, trivial⟩ rfl ?_
  refine zx_iconst (pc' := 9) (n := 1) jd_law_8 rfl ?_
  refine jw_istore_n (pc' := 10) (lc' := [(0, _), (1, _), (2, _)]) jd_law_9 rfl (Nat.le_of_ble_eq_true rfl) ⟨rfl, rfl, rfl, trivial⟩ rfl ?_
  refine zx_iconst (pc' := 11) (n := 0) jd_law_10 rfl ?_
  refine jw_istore_n (pc' := 12) (lc' := [(0, _), (1, _), (2, _), (3, _)]) jd_law_11 rfl (Nat.le_of_ble_eq_true rfl) ⟨rfl, rfl, rfl, rfl, trivial⟩ rfl ?_
  refine zx_iconst (pc' := 13) (n := 0) jd_law_12 rfl ?_
  refine jw_istore (pc' := 15) (lc' := [(0, _), (1, _), (2, _), (3, _), (4, _)]) jd_law_13 (Nat.le_of_ble_eq_true rfl) ⟨rfl, rfl, rfl, rfl, rfl, trivial⟩ rfl ?_
  refine jw_less2 (mm_sig h1) ?_
  exact law_15 hR (by omega) (by omega) (fun lc μ => hEnd _ _ lc μ _ (by omega) (by omega)) 30 0 0 1 (sig μ) (by omega) (SL_sig h1)
end
