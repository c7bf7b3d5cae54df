/-! PART 82: pairs: which stone to scrap: no STONE touches another one -/
/-- rows that differ in one STONE's DONE, and in COST and MISSED -/
def AG (s m : Nat) (M N : Nat → Int32) : Prop := SS M N ∧ M 2 = N 2 ∧ (∀ i j, i < 10 → j < 5 → M (20 + 6 * i + j) = N (20 + 6 * i + j)) ∧ (∀ q, 80 ≤ q → M q = N q) ∧ (∀ i, i < m → i ≠ s → M (25 + 6 * i) = N (25 + 6 * i)) ∧ 0 ≤ M (25 + 6 * s)
section PK
variable {N M : Nat → Int32} {m T y s : Nat}
theorem AG.sr (h : AG s m M N) : AG s m (r_sr M) (r_sr N) := by
  obtain ⟨h1, h2, h3, h4, h5, h6⟩ := h
  refine ⟨h1.sr, by rw [(r_sr_2 M).1, (r_sr_2 N).1, h2], fun i j hi hj => ?_, fun q hq => ?_, fun i hi hs => ?_, ?_⟩
  · rw [(yS_sr M).2.2.2.2.2 i j hi hj, (yS_sr N).2.2.2.2.2 i j hi hj, h3 i j hi hj]
  · rw [(yS_sr M).2.2.2.2.1 q hq, (yS_sr N).2.2.2.2.1 q hq, h4 q hq]
  · rw [(r_sr_2 M).2.2.2 i, (r_sr_2 N).2.2.2 i, h5 i hi hs]
  · rw [(r_sr_2 M).2.2.2 s]; exact h6
theorem AG.fll (h : AG s m M N) (hN : iN N m T) {i : Nat} (hi : i < m) (hs : i ≠ s) : fl M i ↔ fl N i := by
  have hm := hN.2.1
  unfold fl
  have e24 := h.2.2.1 i 4 (by omega) (by decide)
  rw [show 20 + 6 * i + 4 = 24 + 6 * i by omega] at e24
  rw [h.2.2.2.2.1 i hi hs, h.2.1, e24, r_hd_congr (hN.2.2.1 i hi) (fun q h1 h2 => h.1 q (by omega)) (fun j hj => h.2.2.1 i j (by omega) hj)]
theorem AG.fd (h : AG s m M N) (hN : iN N m T) (hs : s < m) : AG s m (r_fd M m) (r_fd N m) := by
  have hm := hN.2.1
  refine ⟨fun q hq => ?_, ?_, fun i j hi hj => ?_, fun q hq => ?_, fun i hi hn => ?_, ?_⟩
  · rw [r_fd_ne m (fun i hi => by omega), r_fd_ne m (fun i hi => by omega), h.1 q hq]
  · rw [r_fd_ne m (fun i hi => by omega), r_fd_ne m (fun i hi => by omega), h.2.1]
  · rw [r_fd_ne m (fun i hi => by omega), r_fd_ne m (fun i hi => by omega), h.2.2.1 i j hi hj]
  · rw [r_fd_ne m (fun i hi => by omega), r_fd_ne m (fun i hi => by omega), h.2.2.2.1 q hq]
  · rw [r_fd_at m hi, r_fd_at m hi, h.2.1, h.2.2.2.2.1 i hi hn]
    by_cases e : fl N i
    · rw [cI_t e, cI_t ((h.fll hN hi hn).mpr e)]
    · rw [cI_f e, cI_f (fun z => e ((h.fll hN hi hn).mp z))]
  · rw [r_fd_at m hs, cI_f (fun z => absurd z.1 (Int32.not_lt.mpr h.2.2.2.2.2))]
    exact h.2.2.2.2.2
theorem AG.yr (h : AG s m M N) (hM : iN M m T) (hN : iN N m T) (h2 : ¬ N 2 < 0) (hs : s < m) : AG s m (r_yr M m T) (r_yr N m T) := by
  have hm := hN.2.1
  have f := h.sr.fd ((yS_sr N).iN hN) hs
  rw [r_yr_fd hM (by rw [h.2.1]; exact h2), r_yr_fd hN h2]
  refine ⟨fun q hq => ?_, by rw [pk_us, pk_us, h.2.1], fun i j hi hj => ?_, fun q hq => ?_, fun i hi hn => ?_, ?_⟩
  · rw [pk_un (by omega), pk_un (by omega), r_py_ne (by omega) (by omega), r_py_ne (by omega) (by omega), f.1 q hq]
  · rw [pk_un (by omega), pk_un (by omega), r_py_ne (by omega) (by omega), r_py_ne (by omega) (by omega), f.2.2.1 i j hi hj]
  · rw [pk_un (by omega), pk_un (by omega), r_py_ne (by omega) (by omega), r_py_ne (by omega) (by omega), f.2.2.2.1 q hq]
  · rw [pk_un (by omega), pk_un (by omega), r_py_ne (by omega) (by omega), r_py_ne (by omega) (by omega), f.2.2.2.2.1 i hi hn]
  · rw [pk_un (by omega), r_py_ne (by omega) (by omega)]; exact f.2.2.2.2.2
theorem AG.gn (h : AG s m M N) (hM : iN M m T) (hN : iN N m T) (hy : N 2 = nI y) (hs : s < m) : ∀ k, y + k < 2 ^ 31 → AG s m (r_gn M m T k) (r_gn N m T k)
  | 0, _ => h
  | k + 1, hk => AG.yr (AG.gn h hM hN hy hs k (by omega)) ((yS_gn M T hN.2.1 k).iN hM) ((yS_gn N T hN.2.1 k).iN hN) (by rw [gn_2 hN hy k (by omega)]; exact nI_pos (by omega)) hs
/-- the row behind the k-th year's looking at STONES -/
noncomputable def rw' (N : Nat → Int32) (m T k : Nat) : Nat → Int32 := r_fd (r_sr (r_gn N m T k)) m
/-- what a STONE costs by itself within k years -/
noncomputable def sN (N : Nat → Int32) (m T i : Nat) : Nat → Nat
  | 0 => 0
  | k + 1 => sN N m T i k + cI (rw' N m T k (25 + 6 * i) < 0) (r_keeps (rw' N m T k) T i).toNatClampNeg 0
def sumN (f : Nat → Nat) : Nat → Nat
  | 0 => 0
  | k + 1 => sumN f k + f k
theorem sumN_congr {f g : Nat → Nat} : ∀ k, (∀ i, i < k → f i = g i) → sumN f k = sumN g k
  | 0, _ => rfl
  | k + 1, h => by rw [sumN, sumN, sumN_congr k (fun i hi => h i (by omega)), h k (by omega)]
theorem sumN_add {f g : Nat → Nat} : ∀ k, sumN (fun i => f i + g i) k = sumN f k + sumN g k
  | 0 => rfl
  | k + 1 => by rw [sumN, sumN, sumN, sumN_add k]; omega
theorem sumN_le {f : Nat → Nat} {b : Nat} : ∀ k, (∀ i, i < k → f i ≤ b) → sumN f k ≤ b * k
  | 0, _ => Nat.zero_le _
  | k + 1, h => by
    have := sumN_le k (fun i hi => h i (by omega))
    have := h k (by omega)
    rw [sumN, Nat.mul_succ]
    omega
theorem sumN_but {f : Nat → Nat} : ∀ k, s < k → sumN (fun i => if i = s then 0 else f i) k + f s = sumN f k
  | 0, h => absurd h (Nat.not_lt_zero s)
  | k + 1, h => by
    by_cases e : s = k
    · subst e
      rw [sumN, sumN, if_pos rfl, Nat.add_zero, sumN_congr (g := f) s (fun i hi => if_neg (by omega))]
    · have := sumN_but (f := f) k (by omega)
      rw [sumN, sumN, if_neg (Ne.symm e)]
      omega
theorem sumN_zero {f : Nat → Nat} : ∀ k, (∀ i, i < k → f i = 0) → sumN f k = 0
  | 0, _ => rfl
  | k + 1, h => by rw [sumN, sumN_zero k (fun i hi => h i (by omega)), h k (by omega)]
theorem keepsC (N : Nat → Int32) (T i : Nat) : r_keeps N T i = nI (r_keeps N T i).toNatClampNeg ∧ (r_keeps N T i).toNatClampNeg ≤ 201 := by
  obtain ⟨k, hk, e⟩ := r_keepsB N T i
  rw [e, nI_clamp (by omega)]
  exact ⟨rfl, hk⟩
theorem sN_le (N : Nat → Int32) (m T i : Nat) : ∀ k, sN N m T i k ≤ 201 * k
  | 0 => Nat.zero_le _
  | k + 1 => by
    have := sN_le N m T i k
    rw [sN]
    by_cases e : rw' N m T k (25 + 6 * i) < 0
    · rw [cI_t e]
      have := (keepsC (rw' N m T k) T i).2
      omega
    · rw [cI_f e]; omega
theorem r_py_sum {c : Nat} (h5 : N 5 = nI c) : ∀ k, r_py N T k 5 = nI (c + sumN (fun i => cI (N (25 + 6 * i) < 0) (r_keeps N T i).toNatClampNeg 0) k)
  | 0 => h5
  | k + 1 => by
    rw [r_py, sumN]
    by_cases q : N (25 + 6 * k) < 0
    · rw [cI_t q, cI_t q, pk_un (by decide), pk_us, r_py_sum h5 k, (keepsC N T k).1, nI_add, Nat.add_assoc, nI_clamp (by have := (keepsC N T k).2; omega)]
    · rw [cI_f q, cI_f q, r_py_sum h5 k]
      rfl
theorem gn_cost {c : Nat} (hN : iN N m T) (hy : N 2 = nI y) (h5 : N 5 = nI c) : ∀ k, y + k < 2 ^ 31 → r_gn N m T k 5 = nI (c + sumN (fun i => sN N m T i k) m)
  | 0, _ => by
    have : sumN (fun i => sN N m T i 0) m = 0 := sumN_zero m (fun i _ => rfl)
    rw [this]; exact h5
  | k + 1, hk => by
    have ih := gn_cost hN hy h5 k (by omega)
    have e5 : rw' N m T k 5 = nI (c + sumN (fun i => sN N m T i k) m) := by
      rw [rw', r_fd_ne m (fun i hi => by omega), (r_sr_2 _).2.1, ih]
    rw [r_gn, r_yr_fd ((yS_gn N T hN.2.1 k).iN hN) (by rw [gn_2 hN hy k (by omega)]; exact nI_pos (by omega)), pk_un (by decide), ← rw', r_py_sum e5 m, Nat.add_assoc, ← sumN_add]
    rfl
theorem sN_but (hN : iN N m T) (hy : N 2 = nI y) (hs : s < m) : ∀ k, y + k < 2 ^ 31 → ∀ i, i < m → sN (upd N (25 + 6 * s) 0) m T i k = if i = s then 0 else sN N m T i k
  | 0, _, i, hi => by split <;> rfl
  | k + 1, hk, i, hi => by
    have hm := hN.2.1
    have ih := sN_but hN hy hs k (by omega) i hi
    have hM : iN (upd N (25 + 6 * s) 0) m T := iN_up hN (Or.inr (Or.inr (Or.inr (Or.inr (Or.inr ⟨s, by omega, rfl⟩)))))
    have a0 : AG s m (upd N (25 + 6 * s) 0) N := ⟨fun q hq => pk_un (by omega), pk_un (by omega), fun i j h1 h2 => pk_un (by omega), fun q hq => pk_un (by omega), fun i h1 h2 => pk_un (by omega), by rw [pk_us]; decide⟩
    have a := ((a0.gn hM hN hy hs k (by omega)).sr).fd ((yS_sr _).iN ((yS_gn N T hm k).iN hN)) hs
    rw [sN, sN, ih]
    by_cases e : i = s
    · subst e
      rw [if_pos rfl, if_pos rfl, cI_f (show ¬ rw' (upd N (25 + 6 * i) 0) m T k (25 + 6 * i) < 0 from Int32.not_lt.mpr a.2.2.2.2.2)]
    · rw [if_neg e, if_neg e]
      have ek : r_keeps (rw' (upd N (25 + 6 * s) 0) m T k) T i = r_keeps (rw' N m T k) T i := r_keeps_congr a.2.1 (fun j hj => a.2.2.1 i j (by omega) hj) a.2.2.2.1
      have ed : rw' (upd N (25 + 6 * s) 0) m T k (25 + 6 * i) = rw' N m T k (25 + 6 * i) := a.2.2.2.2.1 i hi e
      rw [ek, ed]
theorem sk_eq {c K : Nat} (hN : iN N m T) (hy : N 2 = nI y) (h5 : N 5 = nI c) (hs : s < m) (hk : y + K < 2 ^ 31) : r_sk N m T K s = nI (c + sumN (fun i => sN N m T i K) m - sN N m T s K) := by
  have hm := hN.2.1
  have hM : iN (upd N (25 + 6 * s) 0) m T := iN_up hN (Or.inr (Or.inr (Or.inr (Or.inr (Or.inr ⟨s, by omega, rfl⟩)))))
  rw [r_sk, gn_cost hM ((pk_un (by omega)).trans hy) ((pk_un (by omega)).trans h5) K hk, sumN_congr m (fun i hi => sN_but hN hy hs K hk i hi)]
  have := sumN_but (f := fun i => sN N m T i K) m hs
  congr 1
  omega
/-- the dearest of the first k, the first one of these -/
noncomputable def dr (f : Nat → Nat) : Nat → Nat
  | 0 => 0
  | k + 1 => cI (f (dr f k) < f k) k (dr f k)
theorem dr_lt (f : Nat → Nat) : ∀ k, dr f (k + 1) < k + 1
  | 0 => by
    rw [dr, dr]
    by_cases e : f 0 < f 0
    · exact absurd e (Nat.lt_irrefl _)
    · rw [cI_f e]; decide
  | k + 1 => by
    have := dr_lt f k
    rw [dr]
    by_cases e : f (dr f (k + 1)) < f (k + 1)
    · rw [cI_t e]; omega
    · rw [cI_f e]; omega
theorem lw_dr {f : Nat → Nat} {g : Nat → Int32} {C : Nat} (hC : C < 2 ^ 31) (hf : ∀ i, i < m → f i ≤ C) (hg : ∀ i, i < m → g i = nI (C - f i)) (hm : m ≤ 10) : ∀ k, k < m → r_lw g (k + 1) = (nI (dr f (k + 1)), g (dr f (k + 1)))
  | 0, hk => by
    have e : ¬ f 0 < f 0 := Nat.lt_irrefl _
    rw [r_lw, cI_t (Or.inl (by rw [r_lw]; decide)), dr, dr, cI_f e]
  | k + 1, hk => by
    have ih := lw_dr hC hf hg hm k (by omega)
    have hd := dr_lt f k
    have hd2 : dr f (k + 1 + 1) = cI (f (dr f (k + 1)) < f (k + 1)) (k + 1) (dr f (k + 1)) := rfl
    rw [r_lw, ih, hd2]
    have hlt : g (k + 1) < g (dr f (k + 1)) ↔ f (dr f (k + 1)) < f (k + 1) := by
      have h1 := hf (k + 1) hk
      have h2 := hf (dr f (k + 1)) (by omega)
      rw [hg _ hk, hg _ (by omega), nI_ltI (by omega) (by omega)]
      omega
    by_cases e : f (dr f (k + 1)) < f (k + 1)
    · rw [cI_t e, cI_t (Or.inr (hlt.mpr e))]
    · rw [cI_f e, cI_f]
      rintro (z | z)
      · exact nI_pos (show dr f (k + 1) < 2 ^ 31 by omega) z
      · exact e (hlt.mp z)
end PK
section PRK
variable {E : mh_E} {R s q : Nat} {v w x : Int32} {h h0 h1 : mh_H} {D : tDT} {G G' G2 : Nat → Nat → Int32} {Y Y' Y2 : Nat → Nat → Option Nat} {A B A' : Nat → Nat → Int32} {L : Nat → Int64} {F F' N M g' : Nat → Int32} {V : Nat → Nat → Int32} {X : Nat → Option Nat} {p : Prop} {m T y : Nat}
theorem cV_41 {g : Nat → Int32} : cV 41 (va_up G 41 g) = va_up (cV 41 G) 0 g := by
  have := cV_up (o := 41) (j := 0) (G := G) (f := g)
  rwa [show 41 + 0 = 41 from rfl] at this
theorem cR.m72 {f : Nat → Int32} (c : cR p D (cV 41 G') X N m T y) : cR p D (cV 41 (va_up G' 72 f)) X N m T y := c.ext (fun i hi => va_up_ne _ _ (by omega))
theorem kM.m72 {f : Nat → Int32} (k : kM G Y G' Y') : kM G Y (va_up G' 72 f) Y' := ⟨fun i hi => (va_up_ne _ _ (by omega)).trans (k.1 i hi), k.2⟩
theorem kM.m41 {f : Nat → Int32} (k : kM G Y G' Y') : kM G Y (va_up G' 41 f) Y' := ⟨fun i hi => (va_up_ne _ _ (by omega)).trans (k.1 i hi), k.2⟩
theorem c_become2 (c : cR p D (cV 1 G) (Y 0) N m T y) (hT : tX D (R + 124) h0) : mh_M E 2 0 0 yX0_become [.ref (R + 41), .ref (R + 1)] (hA h0 R G Y) (fun r h' => r = none ∧ ∃ G' Y', h' = hA h0 R G' Y' ∧ cR p D (cV 41 G') (Y' 2) N m T y ∧ kM G Y G' Y' ∧ G' 72 = G 72) := by
  have ho : oC (hA h0 R G Y) (R + 1) (cV 1 G) (Y 0) := fun i hi => by rw [Nat.add_assoc, hA_in (by omega), kA_n hi]
  refine on_m ((c_X0_become ho (Or.inl (by omega)) c (tX_hA hT) (show R + 41 + 20 ≤ R + 124 by omega)).mono ?_)
  rintro _ _ ⟨rfl, V, X, rfl, hb⟩
  exact ⟨rfl, _, _, hA_mndP, (c.copy hb).mdE, kM.rf.md, cG_out (by decide)⟩
theorem c_X9_sumCosts {K : Nat} (c : cR True D (cV 1 G) (Y 0) N m T y) (hy : y + K < 2 ^ 30) (hT : tX D (R + 124) h0) : mh_M E 10 0 0 yX9_sumCosts [.ref R, .int (nI K)] (hA h0 R G Y) (fun r h' => r = none ∧ ∃ h1 G' Y', h' = hA h1 R G' Y' ∧ kM G Y G' Y' ∧ eY R h0 h1 ∧ tX D (R + 124) h1 ∧ ∀ i, i < m → G' 72 i = nI (sN N m T i K)) := by
  have hm := c.1.2.2
  have hiN := c.iN
  generalize hPo : (fun (r : Option Value) (h' : mh_H) => r = none ∧ ∃ h1 G' Y', h' = hA h1 R G' Y' ∧ kM G Y G' Y' ∧ eY R h0 h1 ∧ tX D (R + 124) h1 ∧ ∀ i, i < m → G' 72 i = nI (sN N m T i K)) = Po
  refine m_X9_sumCosts [some (.ref R), some (.int (nI K)), none, none] rfl (Nat.le_of_ble_eq_true rfl) ?_
  simp +decide only [e_push, e_il, e_ll, e_al, e_is, e_ls, e_as, e_asN, e_inc, e_bin, e_un, e_div, e_i2l, e_l2i, e_binL, e_lneg, e_lcmp, e_dup, e_dup2, e_pop, e_if1, e_if2, e_ifnN, e_ifnR, e_sw, e_sw0, e_sw1, e_gi, e_gr, e_pi, e_pz, e_pr, e_ald, e_lald, e_aald, e_tald, e_alen, e_tlen, e_ast, e_last, e_aast, e_newa, e_newl, e_newq, e_new, e_oi, e_cv, e_cvS, e_ci, e_cs, e_pop0, e_popS, e_iret, e_zret, e_cret, e_bret, e_aret, e_aretN, e_vret, e_gs, e_ac, e_mm, e_ma, e_ldcs, e_gcs, e_gfm, e_gsV, e_gsC, e_bln, e_bld, mh_get, mh_set, mh_one, mh_two, Value.category, mh_po, mh_mc, mh_ms, mh_d, hA_0, hA_n0, hA_n1, hA_n6, hA_n7, hA_i0, hA_m0, hA_m1, hA_m6, hA_g0, hA_t0, hA_69, hA_70, hA_71, hA_72, hA_p0, hA_pn, hA_pm, hA_p71, hA_p72, hA_now, hA_img, hA_mnd, va_up_self, va_up_ne, bx_uu, g2_9, g2_10, g10_3, g10_4, g10_5, g10_6, g10_7, g10_8, g10_9, i_in_0, i_cl_0, i_in_1, i_cl_1, i_in_2, i_cl_2, i_in_3, i_cl_3, i_in_4, i_cl_4, i_in_5, i_cl_5, i_in_6, i_cl_6, i_in_7, i_cl_7, i_in_8, i_cl_8, i_in_9, i_cl_9, i_in_10, i_cl_10, i_in_11, i_cl_11, i_in_12, i_cl_12, i_in_13, i_cl_13, i_in_14, i_cl_14, i_in_15, i_cl_15, i_in_16, i_cl_16, i_in_17, i_cl_17, i_in_18, i_cl_18, i_in_19, i_cl_19, i_in_20, i_cl_20, i_in_21, i_cl_21, i_in_22, i_cl_22, i_in_23, i_cl_23, i_in_24, i_cl_24, i_in_25, i_cl_25, i_in_26, i_cl_26, i_in_27, i_cl_27, i_in_28, i_cl_28, i_in_29, i_cl_29, i_in_30, i_cl_30, i_in_31, i_cl_31, i_in_32, i_cl_32, i_in_33, i_cl_33, q_X9_sumCosts_0, false_implies, true_implies, implies_true, not_true_eq_false, not_false_eq_true, true_or, or_true, and_self, and_assoc, Option.some.injEq, Sum.inl.injEq, Sum.inr.injEq, Prod.mk.injEq, Value.int.injEq, Value.ref.injEq, Value.long.injEq, true_and, and_true, exists_and_left, exists_and_right, exists_eq_left, exists_eq_left', List.getElem?_cons_zero, List.getElem?_cons_succ, List.length_cons, List.length_nil, List.set_cons_zero, List.set_cons_succ, Option.toList, List.cons_append, List.nil_append, List.append_nil, Nat.zero_add, Nat.le_refl, Nat.zero_le, beq_self_eq_true, Option.isNone_none]
  refine mh_ex (c_J7_fill (by decide) hA_72) (Nat.le_of_ble_eq_true rfl) (Nat.le_of_ble_eq_true rfl) (Nat.le_of_ble_eq_true rfl) (Nat.le_of_ble_eq_true rfl) ?_
  rw [hA_p72]
  simp +decide only [e_push, e_il, e_ll, e_al, e_is, e_ls, e_as, e_asN, e_inc, e_bin, e_un, e_div, e_i2l, e_l2i, e_binL, e_lneg, e_lcmp, e_dup, e_dup2, e_pop, e_if1, e_if2, e_ifnN, e_ifnR, e_sw, e_sw0, e_sw1, e_gi, e_gr, e_pi, e_pz, e_pr, e_ald, e_lald, e_aald, e_tald, e_alen, e_tlen, e_ast, e_last, e_aast, e_newa, e_newl, e_newq, e_new, e_oi, e_cv, e_cvS, e_ci, e_cs, e_pop0, e_popS, e_iret, e_zret, e_cret, e_bret, e_aret, e_aretN, e_vret, e_gs, e_ac, e_mm, e_ma, e_ldcs, e_gcs, e_gfm, e_gsV, e_gsC, e_bln, e_bld, mh_get, mh_set, mh_one, mh_two, Value.category, mh_po, mh_mc, mh_ms, mh_d, hA_0, hA_n0, hA_n1, hA_n6, hA_n7, hA_i0, hA_m0, hA_m1, hA_m6, hA_g0, hA_t0, hA_69, hA_70, hA_71, hA_72, hA_p0, hA_pn, hA_pm, hA_p71, hA_p72, hA_now, hA_img, hA_mnd, va_up_self, va_up_ne, bx_uu, g2_9, g2_10, g10_3, g10_4, g10_5, g10_6, g10_7, g10_8, g10_9, i_in_0, i_cl_0, i_in_1, i_cl_1, i_in_2, i_cl_2, i_in_3, i_cl_3, i_in_4, i_cl_4, i_in_5, i_cl_5, i_in_6, i_cl_6, i_in_7, i_cl_7, i_in_8, i_cl_8, i_in_9, i_cl_9, i_in_10, i_cl_10, i_in_11, i_cl_11, i_in_12, i_cl_12, i_in_13, i_cl_13, i_in_14, i_cl_14, i_in_15, i_cl_15, i_in_16, i_cl_16, i_in_17, i_cl_17, i_in_18, i_cl_18, i_in_19, i_cl_19, i_in_20, i_cl_20, i_in_21, i_cl_21, i_in_22, i_cl_22, i_in_23, i_cl_23, i_in_24, i_cl_24, i_in_25, i_cl_25, i_in_26, i_cl_26, i_in_27, i_cl_27, i_in_28, i_cl_28, i_in_29, i_cl_29, i_in_30, i_cl_30, i_in_31, i_cl_31, i_in_32, i_cl_32, i_in_33, i_cl_33, false_implies, true_implies, implies_true, not_true_eq_false, not_false_eq_true, true_or, or_true, and_self, and_assoc, Option.some.injEq, Sum.inl.injEq, Sum.inr.injEq, Prod.mk.injEq, Value.int.injEq, Value.ref.injEq, Value.long.injEq, true_and, and_true, exists_and_left, exists_and_right, exists_eq_left, exists_eq_left', List.getElem?_cons_zero, List.getElem?_cons_succ, List.length_cons, List.length_nil, List.set_cons_zero, List.set_cons_succ, Option.toList, List.cons_append, List.nil_append, List.append_nil, Nat.zero_add, Nat.le_refl, Nat.zero_le, beq_self_eq_true, Option.isNone_none]
  have k0 : kM G Y (va_up G 72 (fiN (G 72) 0 10)) Y := kM.rf.m72
  refine ⟨⟨_, rfl⟩, mh_ez (c_become2 (k0.c c) hT) (Nat.le_of_ble_eq_true rfl) (Nat.le_of_ble_eq_true rfl) (Nat.le_of_ble_eq_true rfl) (Nat.le_of_ble_eq_true rfl) ?_⟩
  rintro _ _ ⟨rfl, G1, Y1, rfl, c1, k1, e1⟩
  simp +decide only [e_push, e_il, e_ll, e_al, e_is, e_ls, e_as, e_asN, e_inc, e_bin, e_un, e_div, e_i2l, e_l2i, e_binL, e_lneg, e_lcmp, e_dup, e_dup2, e_pop, e_if1, e_if2, e_ifnN, e_ifnR, e_sw, e_sw0, e_sw1, e_gi, e_gr, e_pi, e_pz, e_pr, e_ald, e_lald, e_aald, e_tald, e_alen, e_tlen, e_ast, e_last, e_aast, e_newa, e_newl, e_newq, e_new, e_oi, e_cv, e_cvS, e_ci, e_cs, e_pop0, e_popS, e_iret, e_zret, e_cret, e_bret, e_aret, e_aretN, e_vret, e_gs, e_ac, e_mm, e_ma, e_ldcs, e_gcs, e_gfm, e_gsV, e_gsC, e_bln, e_bld, mh_get, mh_set, mh_one, mh_two, Value.category, mh_po, mh_mc, mh_ms, mh_d, hA_0, hA_n0, hA_n1, hA_n6, hA_n7, hA_i0, hA_m0, hA_m1, hA_m6, hA_g0, hA_t0, hA_69, hA_70, hA_71, hA_72, hA_p0, hA_pn, hA_pm, hA_p71, hA_p72, hA_now, hA_img, hA_mnd, va_up_self, va_up_ne, bx_uu, g2_9, g2_10, g10_3, g10_4, g10_5, g10_6, g10_7, g10_8, g10_9, i_in_0, i_cl_0, i_in_1, i_cl_1, i_in_2, i_cl_2, i_in_3, i_cl_3, i_in_4, i_cl_4, i_in_5, i_cl_5, i_in_6, i_cl_6, i_in_7, i_cl_7, i_in_8, i_cl_8, i_in_9, i_cl_9, i_in_10, i_cl_10, i_in_11, i_cl_11, i_in_12, i_cl_12, i_in_13, i_cl_13, i_in_14, i_cl_14, i_in_15, i_cl_15, i_in_16, i_cl_16, i_in_17, i_cl_17, i_in_18, i_cl_18, i_in_19, i_cl_19, i_in_20, i_cl_20, i_in_21, i_cl_21, i_in_22, i_cl_22, i_in_23, i_cl_23, i_in_24, i_cl_24, i_in_25, i_cl_25, i_in_26, i_cl_26, i_in_27, i_cl_27, i_in_28, i_cl_28, i_in_29, i_cl_29, i_in_30, i_cl_30, i_in_31, i_cl_31, i_in_32, i_cl_32, i_in_33, i_cl_33, false_implies, true_implies, implies_true, not_true_eq_false, not_false_eq_true, true_or, or_true, and_self, and_assoc, Option.some.injEq, Sum.inl.injEq, Sum.inr.injEq, Prod.mk.injEq, Value.int.injEq, Value.ref.injEq, Value.long.injEq, true_and, and_true, exists_and_left, exists_and_right, exists_eq_left, exists_eq_left', List.getElem?_cons_zero, List.getElem?_cons_succ, List.length_cons, List.length_nil, List.set_cons_zero, List.set_cons_succ, Option.toList, List.cons_append, List.nil_append, List.append_nil, Nat.zero_add, Nat.le_refl, Nat.zero_le, beq_self_eq_true, Option.isNone_none]
  have z72 : ∀ i, i < m → G1 72 i = nI (sN N m T i 0) := fun i hi => by
    rw [e1, va_up_self, fiN, if_pos (by omega)]
    rfl
  refine mh_for K (fun k lv h' => ∃ h1 G' Y' o, lv = [some (.ref R), some (.int (nI K)), some (.int (nI k)), o] ∧ h' = hA h1 R G' Y' ∧ cR False D (cV 41 G') (Y' 2) (r_gn N m T k) m T (y + k) ∧ kM G Y G' Y' ∧ eY R h0 h1 ∧ tX D (R + 124) h1 ∧ ∀ i, i < m → G' 72 i = nI (sN N m T i k)) ?_ ?_ _ _ ⟨h0, G1, Y1, none, rfl, rfl, c1.mono False.elim, k0.trans k1, eY.rf, hT, z72⟩
  · rintro k _ _ hk ⟨h1, G', Y', o, rfl, rfl, c', k', x', t', s'⟩ ih
    refine b_X9_sumCosts_21 _ _ _ _ _ ?_
    have hge : ¬ nI K ≤ nI k := nI_ge hk (by omega)
    simp +decide only [e_push, e_il, e_ll, e_al, e_is, e_ls, e_as, e_asN, e_inc, e_bin, e_un, e_div, e_i2l, e_l2i, e_binL, e_lneg, e_lcmp, e_dup, e_dup2, e_pop, e_if1, e_if2, e_ifnN, e_ifnR, e_sw, e_sw0, e_sw1, e_gi, e_gr, e_pi, e_pz, e_pr, e_ald, e_lald, e_aald, e_tald, e_alen, e_tlen, e_ast, e_last, e_aast, e_newa, e_newl, e_newq, e_new, e_oi, e_cv, e_cvS, e_ci, e_cs, e_pop0, e_popS, e_iret, e_zret, e_cret, e_bret, e_aret, e_aretN, e_vret, e_gs, e_ac, e_mm, e_ma, e_ldcs, e_gcs, e_gfm, e_gsV, e_gsC, e_bln, e_bld, mh_get, mh_set, mh_one, mh_two, Value.category, mh_po, mh_mc, mh_ms, mh_d, hA_0, hA_n0, hA_n1, hA_n6, hA_n7, hA_i0, hA_m0, hA_m1, hA_m6, hA_g0, hA_t0, hA_69, hA_70, hA_71, hA_72, hA_p0, hA_pn, hA_pm, hA_p71, hA_p72, hA_now, hA_img, hA_mnd, va_up_self, va_up_ne, bx_uu, g2_9, g2_10, g10_3, g10_4, g10_5, g10_6, g10_7, g10_8, g10_9, i_in_0, i_cl_0, i_in_1, i_cl_1, i_in_2, i_cl_2, i_in_3, i_cl_3, i_in_4, i_cl_4, i_in_5, i_cl_5, i_in_6, i_cl_6, i_in_7, i_cl_7, i_in_8, i_cl_8, i_in_9, i_cl_9, i_in_10, i_cl_10, i_in_11, i_cl_11, i_in_12, i_cl_12, i_in_13, i_cl_13, i_in_14, i_cl_14, i_in_15, i_cl_15, i_in_16, i_cl_16, i_in_17, i_cl_17, i_in_18, i_cl_18, i_in_19, i_cl_19, i_in_20, i_cl_20, i_in_21, i_cl_21, i_in_22, i_cl_22, i_in_23, i_cl_23, i_in_24, i_cl_24, i_in_25, i_cl_25, i_in_26, i_cl_26, i_in_27, i_cl_27, i_in_28, i_cl_28, i_in_29, i_cl_29, i_in_30, i_cl_30, i_in_31, i_cl_31, i_in_32, i_cl_32, i_in_33, i_cl_33, q_X9_sumCosts_21, hge, false_implies, true_implies, implies_true, not_true_eq_false, not_false_eq_true, true_or, or_true, and_self, and_assoc, Option.some.injEq, Sum.inl.injEq, Sum.inr.injEq, Prod.mk.injEq, Value.int.injEq, Value.ref.injEq, Value.long.injEq, true_and, and_true, exists_and_left, exists_and_right, exists_eq_left, exists_eq_left', List.getElem?_cons_zero, List.getElem?_cons_succ, List.length_cons, List.length_nil, List.set_cons_zero, List.set_cons_succ, Option.toList, List.cons_append, List.nil_append, List.append_nil, Nat.zero_add, Nat.le_refl, Nat.zero_le, beq_self_eq_true, Option.isNone_none]
    refine ⟨⟨_, rfl⟩, mh_ez (on_m (c_X0_stir c')) (Nat.le_of_ble_eq_true rfl) (Nat.le_of_ble_eq_true rfl) (Nat.le_of_ble_eq_true rfl) (Nat.le_of_ble_eq_true rfl) ?_⟩
    rintro _ _ ⟨rfl, V1, rfl, c2⟩
    rw [hA_mndQ]
    simp +decide only [e_push, e_il, e_ll, e_al, e_is, e_ls, e_as, e_asN, e_inc, e_bin, e_un, e_div, e_i2l, e_l2i, e_binL, e_lneg, e_lcmp, e_dup, e_dup2, e_pop, e_if1, e_if2, e_ifnN, e_ifnR, e_sw, e_sw0, e_sw1, e_gi, e_gr, e_pi, e_pz, e_pr, e_ald, e_lald, e_aald, e_tald, e_alen, e_tlen, e_ast, e_last, e_aast, e_newa, e_newl, e_newq, e_new, e_oi, e_cv, e_cvS, e_ci, e_cs, e_pop0, e_popS, e_iret, e_zret, e_cret, e_bret, e_aret, e_aretN, e_vret, e_gs, e_ac, e_mm, e_ma, e_ldcs, e_gcs, e_gfm, e_gsV, e_gsC, e_bln, e_bld, mh_get, mh_set, mh_one, mh_two, Value.category, mh_po, mh_mc, mh_ms, mh_d, hA_0, hA_n0, hA_n1, hA_n6, hA_n7, hA_i0, hA_m0, hA_m1, hA_m6, hA_g0, hA_t0, hA_69, hA_70, hA_71, hA_72, hA_p0, hA_pn, hA_pm, hA_p71, hA_p72, hA_now, hA_img, hA_mnd, va_up_self, va_up_ne, bx_uu, g2_9, g2_10, g10_3, g10_4, g10_5, g10_6, g10_7, g10_8, g10_9, i_in_0, i_cl_0, i_in_1, i_cl_1, i_in_2, i_cl_2, i_in_3, i_cl_3, i_in_4, i_cl_4, i_in_5, i_cl_5, i_in_6, i_cl_6, i_in_7, i_cl_7, i_in_8, i_cl_8, i_in_9, i_cl_9, i_in_10, i_cl_10, i_in_11, i_cl_11, i_in_12, i_cl_12, i_in_13, i_cl_13, i_in_14, i_cl_14, i_in_15, i_cl_15, i_in_16, i_cl_16, i_in_17, i_cl_17, i_in_18, i_cl_18, i_in_19, i_cl_19, i_in_20, i_cl_20, i_in_21, i_cl_21, i_in_22, i_cl_22, i_in_23, i_cl_23, i_in_24, i_cl_24, i_in_25, i_cl_25, i_in_26, i_cl_26, i_in_27, i_cl_27, i_in_28, i_cl_28, i_in_29, i_cl_29, i_in_30, i_cl_30, i_in_31, i_cl_31, i_in_32, i_cl_32, i_in_33, i_cl_33, false_implies, true_implies, implies_true, not_true_eq_false, not_false_eq_true, true_or, or_true, and_self, and_assoc, Option.some.injEq, Sum.inl.injEq, Sum.inr.injEq, Prod.mk.injEq, Value.int.injEq, Value.ref.injEq, Value.long.injEq, true_and, and_true, exists_and_left, exists_and_right, exists_eq_left, exists_eq_left', List.getElem?_cons_zero, List.getElem?_cons_succ, List.length_cons, List.length_nil, List.set_cons_zero, List.set_cons_succ, Option.toList, List.cons_append, List.nil_append, List.append_nil, Nat.zero_add, Nat.le_refl, Nat.zero_le, beq_self_eq_true, Option.isNone_none]
    refine ⟨⟨_, rfl⟩, mh_ez (on_m (c_X0_fulfil c2.mdQ (by omega))) (Nat.le_of_ble_eq_true rfl) (Nat.le_of_ble_eq_true rfl) (Nat.le_of_ble_eq_true rfl) (Nat.le_of_ble_eq_true rfl) ?_⟩
    rintro _ _ ⟨rfl, V2, rfl, c3⟩
    rw [hA_mndQ]
    simp +decide only [e_push, e_il, e_ll, e_al, e_is, e_ls, e_as, e_asN, e_inc, e_bin, e_un, e_div, e_i2l, e_l2i, e_binL, e_lneg, e_lcmp, e_dup, e_dup2, e_pop, e_if1, e_if2, e_ifnN, e_ifnR, e_sw, e_sw0, e_sw1, e_gi, e_gr, e_pi, e_pz, e_pr, e_ald, e_lald, e_aald, e_tald, e_alen, e_tlen, e_ast, e_last, e_aast, e_newa, e_newl, e_newq, e_new, e_oi, e_cv, e_cvS, e_ci, e_cs, e_pop0, e_popS, e_iret, e_zret, e_cret, e_bret, e_aret, e_aretN, e_vret, e_gs, e_ac, e_mm, e_ma, e_ldcs, e_gcs, e_gfm, e_gsV, e_gsC, e_bln, e_bld, mh_get, mh_set, mh_one, mh_two, Value.category, mh_po, mh_mc, mh_ms, mh_d, hA_0, hA_n0, hA_n1, hA_n6, hA_n7, hA_i0, hA_m0, hA_m1, hA_m6, hA_g0, hA_t0, hA_69, hA_70, hA_71, hA_72, hA_p0, hA_pn, hA_pm, hA_p71, hA_p72, hA_now, hA_img, hA_mnd, va_up_self, va_up_ne, bx_uu, g2_9, g2_10, g10_3, g10_4, g10_5, g10_6, g10_7, g10_8, g10_9, i_in_0, i_cl_0, i_in_1, i_cl_1, i_in_2, i_cl_2, i_in_3, i_cl_3, i_in_4, i_cl_4, i_in_5, i_cl_5, i_in_6, i_cl_6, i_in_7, i_cl_7, i_in_8, i_cl_8, i_in_9, i_cl_9, i_in_10, i_cl_10, i_in_11, i_cl_11, i_in_12, i_cl_12, i_in_13, i_cl_13, i_in_14, i_cl_14, i_in_15, i_cl_15, i_in_16, i_cl_16, i_in_17, i_cl_17, i_in_18, i_cl_18, i_in_19, i_cl_19, i_in_20, i_cl_20, i_in_21, i_cl_21, i_in_22, i_cl_22, i_in_23, i_cl_23, i_in_24, i_cl_24, i_in_25, i_cl_25, i_in_26, i_cl_26, i_in_27, i_cl_27, i_in_28, i_cl_28, i_in_29, i_cl_29, i_in_30, i_cl_30, i_in_31, i_cl_31, i_in_32, i_cl_32, i_in_33, i_cl_33, false_implies, true_implies, implies_true, not_true_eq_false, not_false_eq_true, true_or, or_true, and_self, and_assoc, Option.some.injEq, Sum.inl.injEq, Sum.inr.injEq, Prod.mk.injEq, Value.int.injEq, Value.ref.injEq, Value.long.injEq, true_and, and_true, exists_and_left, exists_and_right, exists_eq_left, exists_eq_left', List.getElem?_cons_zero, List.getElem?_cons_succ, List.length_cons, List.length_nil, List.set_cons_zero, List.set_cons_succ, Option.toList, List.cons_append, List.nil_append, List.append_nil, Nat.zero_add, Nat.le_refl, Nat.zero_le, beq_self_eq_true, Option.isNone_none]
    have c3' : cR False D (cV 41 (cG 41 20 V2 (cG 41 20 V1 G'))) (Y' 2) (rw' N m T k) m T (y + k) := c3.mdQ
    have s3 : ∀ i, i < m → cG 41 20 V2 (cG 41 20 V1 G') 72 i = nI (sN N m T i k) := fun i hi => by rw [cG_out (by decide), cG_out (by decide)]; exact s' i hi
    generalize hG3 : cG 41 20 V2 (cG 41 20 V1 G') = G3 at c3' s3 ⊢
    have k3 : kM G Y G3 Y' := by rw [← hG3]; exact k'.mdQ.mdQ
    refine mh_for m (fun i lv h' => ∃ h1 G' , lv = [some (.ref R), some (.int (nI K)), some (.int (nI k)), some (.int (nI i))] ∧ h' = hA h1 R G' Y' ∧ cR False D (cV 41 G') (Y' 2) (rw' N m T k) m T (y + k) ∧ kM G Y G' Y' ∧ eY R h0 h1 ∧ tX D (R + 124) h1 ∧ ∀ j, j < m → G' 72 j = nI (if j < i then sN N m T j (k + 1) else sN N m T j k)) ?_ ?_ _ _ ⟨h1, G3, rfl, rfl, c3', k3, x', t', fun j hj => by rw [if_neg (by omega)]; exact s3 j hj⟩
    · rintro i _ _ hi ⟨h2, G4, rfl, rfl, c4, k4, x4, t4, s4⟩ ih2
      refine b_X9_sumCosts_43 _ _ _ _ _ ?_
      have hge : ¬ nI m ≤ nI i := nI_ge hi (by omega)
      have hge2 : ¬ (10 : Int32) ≤ nI i := nI_ge (b := 10) (by omega) (by omega)
      have hv : vp_in (nI i) 10 := vp_in_nI (by omega) (by decide)
      have hcl : (nI i).toNatClampNeg = i := nI_clamp (by omega)
      have hi10 : i < 10 := by omega
      have g3 : G4 41 3 = nI m := c4.1.1
      simp +decide only [e_push, e_il, e_ll, e_al, e_is, e_ls, e_as, e_asN, e_inc, e_bin, e_un, e_div, e_i2l, e_l2i, e_binL, e_lneg, e_lcmp, e_dup, e_dup2, e_pop, e_if1, e_if2, e_ifnN, e_ifnR, e_sw, e_sw0, e_sw1, e_gi, e_gr, e_pi, e_pz, e_pr, e_ald, e_lald, e_aald, e_tald, e_alen, e_tlen, e_ast, e_last, e_aast, e_newa, e_newl, e_newq, e_new, e_oi, e_cv, e_cvS, e_ci, e_cs, e_pop0, e_popS, e_iret, e_zret, e_cret, e_bret, e_aret, e_aretN, e_vret, e_gs, e_ac, e_mm, e_ma, e_ldcs, e_gcs, e_gfm, e_gsV, e_gsC, e_bln, e_bld, mh_get, mh_set, mh_one, mh_two, Value.category, mh_po, mh_mc, mh_ms, mh_d, hA_0, hA_n0, hA_n1, hA_n6, hA_n7, hA_i0, hA_m0, hA_m1, hA_m6, hA_g0, hA_t0, hA_69, hA_70, hA_71, hA_72, hA_p0, hA_pn, hA_pm, hA_p71, hA_p72, hA_now, hA_img, hA_mnd, va_up_self, va_up_ne, bx_uu, g2_9, g2_10, g10_3, g10_4, g10_5, g10_6, g10_7, g10_8, g10_9, i_in_0, i_cl_0, i_in_1, i_cl_1, i_in_2, i_cl_2, i_in_3, i_cl_3, i_in_4, i_cl_4, i_in_5, i_cl_5, i_in_6, i_cl_6, i_in_7, i_cl_7, i_in_8, i_cl_8, i_in_9, i_cl_9, i_in_10, i_cl_10, i_in_11, i_cl_11, i_in_12, i_cl_12, i_in_13, i_cl_13, i_in_14, i_cl_14, i_in_15, i_cl_15, i_in_16, i_cl_16, i_in_17, i_cl_17, i_in_18, i_cl_18, i_in_19, i_cl_19, i_in_20, i_cl_20, i_in_21, i_cl_21, i_in_22, i_cl_22, i_in_23, i_cl_23, i_in_24, i_cl_24, i_in_25, i_cl_25, i_in_26, i_cl_26, i_in_27, i_cl_27, i_in_28, i_cl_28, i_in_29, i_cl_29, i_in_30, i_cl_30, i_in_31, i_cl_31, i_in_32, i_cl_32, i_in_33, i_cl_33, q_X9_sumCosts_43, g3, hge, hge2, hv, hcl, hC_rf hi10, hA_ms hi10, false_implies, true_implies, implies_true, not_true_eq_false, not_false_eq_true, true_or, or_true, and_self, and_assoc, Option.some.injEq, Sum.inl.injEq, Sum.inr.injEq, Prod.mk.injEq, Value.int.injEq, Value.ref.injEq, Value.long.injEq, true_and, and_true, exists_and_left, exists_and_right, exists_eq_left, exists_eq_left', List.getElem?_cons_zero, List.getElem?_cons_succ, List.length_cons, List.length_nil, List.set_cons_zero, List.set_cons_succ, Option.toList, List.cons_append, List.nil_append, List.append_nil, Nat.zero_add, Nat.le_refl, Nat.zero_le, beq_self_eq_true, Option.isNone_none]
      refine ⟨⟨_, rfl⟩, mh_ex (on_m (d_X6_isFulfilled c4 hi)) (Nat.le_of_ble_eq_true rfl) (Nat.le_of_ble_eq_true rfl) (Nat.le_of_ble_eq_true rfl) (Nat.le_of_ble_eq_true rfl) ?_⟩
      by_cases ef : 0 ≤ rw' N m T k (25 + 6 * i)
      · simp +decide only [e_push, e_il, e_ll, e_al, e_is, e_ls, e_as, e_asN, e_inc, e_bin, e_un, e_div, e_i2l, e_l2i, e_binL, e_lneg, e_lcmp, e_dup, e_dup2, e_pop, e_if1, e_if2, e_ifnN, e_ifnR, e_sw, e_sw0, e_sw1, e_gi, e_gr, e_pi, e_pz, e_pr, e_ald, e_lald, e_aald, e_tald, e_alen, e_tlen, e_ast, e_last, e_aast, e_newa, e_newl, e_newq, e_new, e_oi, e_cv, e_cvS, e_ci, e_cs, e_pop0, e_popS, e_iret, e_zret, e_cret, e_bret, e_aret, e_aretN, e_vret, e_gs, e_ac, e_mm, e_ma, e_ldcs, e_gcs, e_gfm, e_gsV, e_gsC, e_bln, e_bld, mh_get, mh_set, mh_one, mh_two, Value.category, mh_po, mh_mc, mh_ms, mh_d, hA_0, hA_n0, hA_n1, hA_n6, hA_n7, hA_i0, hA_m0, hA_m1, hA_m6, hA_g0, hA_t0, hA_69, hA_70, hA_71, hA_72, hA_p0, hA_pn, hA_pm, hA_p71, hA_p72, hA_now, hA_img, hA_mnd, va_up_self, va_up_ne, bx_uu, g2_9, g2_10, g10_3, g10_4, g10_5, g10_6, g10_7, g10_8, g10_9, i_in_0, i_cl_0, i_in_1, i_cl_1, i_in_2, i_cl_2, i_in_3, i_cl_3, i_in_4, i_cl_4, i_in_5, i_cl_5, i_in_6, i_cl_6, i_in_7, i_cl_7, i_in_8, i_cl_8, i_in_9, i_cl_9, i_in_10, i_cl_10, i_in_11, i_cl_11, i_in_12, i_cl_12, i_in_13, i_cl_13, i_in_14, i_cl_14, i_in_15, i_cl_15, i_in_16, i_cl_16, i_in_17, i_cl_17, i_in_18, i_cl_18, i_in_19, i_cl_19, i_in_20, i_cl_20, i_in_21, i_cl_21, i_in_22, i_cl_22, i_in_23, i_cl_23, i_in_24, i_cl_24, i_in_25, i_cl_25, i_in_26, i_cl_26, i_in_27, i_cl_27, i_in_28, i_cl_28, i_in_29, i_cl_29, i_in_30, i_cl_30, i_in_31, i_cl_31, i_in_32, i_cl_32, i_in_33, i_cl_33, zB_t ef, q_X9_sumCosts_100, false_implies, true_implies, implies_true, not_true_eq_false, not_false_eq_true, true_or, or_true, and_self, and_assoc, Option.some.injEq, Sum.inl.injEq, Sum.inr.injEq, Prod.mk.injEq, Value.int.injEq, Value.ref.injEq, Value.long.injEq, true_and, and_true, exists_and_left, exists_and_right, exists_eq_left, exists_eq_left', List.getElem?_cons_zero, List.getElem?_cons_succ, List.length_cons, List.length_nil, List.set_cons_zero, List.set_cons_succ, Option.toList, List.cons_append, List.nil_append, List.append_nil, Nat.zero_add, Nat.le_refl, Nat.zero_le, beq_self_eq_true, Option.isNone_none]
        refine ih2 _ _ ⟨h2, G4, by rw [nI_succ i], rfl, c4, k4, x4, t4, fun j hj => ?_⟩
        rw [s4 j hj]
        by_cases ej : j = i
        · subst ej
          rw [if_neg (by omega), if_pos (by omega), sN, cI_f (Int32.not_lt.mpr ef), Nat.add_zero]
        · by_cases ej2 : j < i
          · rw [if_pos ej2, if_pos (by omega)]
          · rw [if_neg ej2, if_neg (by omega)]
      · have ef' : rw' N m T k (25 + 6 * i) < 0 := Int32.not_le.mp ef
        simp +decide only [e_push, e_il, e_ll, e_al, e_is, e_ls, e_as, e_asN, e_inc, e_bin, e_un, e_div, e_i2l, e_l2i, e_binL, e_lneg, e_lcmp, e_dup, e_dup2, e_pop, e_if1, e_if2, e_ifnN, e_ifnR, e_sw, e_sw0, e_sw1, e_gi, e_gr, e_pi, e_pz, e_pr, e_ald, e_lald, e_aald, e_tald, e_alen, e_tlen, e_ast, e_last, e_aast, e_newa, e_newl, e_newq, e_new, e_oi, e_cv, e_cvS, e_ci, e_cs, e_pop0, e_popS, e_iret, e_zret, e_cret, e_bret, e_aret, e_aretN, e_vret, e_gs, e_ac, e_mm, e_ma, e_ldcs, e_gcs, e_gfm, e_gsV, e_gsC, e_bln, e_bld, mh_get, mh_set, mh_one, mh_two, Value.category, mh_po, mh_mc, mh_ms, mh_d, hA_0, hA_n0, hA_n1, hA_n6, hA_n7, hA_i0, hA_m0, hA_m1, hA_m6, hA_g0, hA_t0, hA_69, hA_70, hA_71, hA_72, hA_p0, hA_pn, hA_pm, hA_p71, hA_p72, hA_now, hA_img, hA_mnd, va_up_self, va_up_ne, bx_uu, g2_9, g2_10, g10_3, g10_4, g10_5, g10_6, g10_7, g10_8, g10_9, i_in_0, i_cl_0, i_in_1, i_cl_1, i_in_2, i_cl_2, i_in_3, i_cl_3, i_in_4, i_cl_4, i_in_5, i_cl_5, i_in_6, i_cl_6, i_in_7, i_cl_7, i_in_8, i_cl_8, i_in_9, i_cl_9, i_in_10, i_cl_10, i_in_11, i_cl_11, i_in_12, i_cl_12, i_in_13, i_cl_13, i_in_14, i_cl_14, i_in_15, i_cl_15, i_in_16, i_cl_16, i_in_17, i_cl_17, i_in_18, i_cl_18, i_in_19, i_cl_19, i_in_20, i_cl_20, i_in_21, i_cl_21, i_in_22, i_cl_22, i_in_23, i_cl_23, i_in_24, i_cl_24, i_in_25, i_cl_25, i_in_26, i_cl_26, i_in_27, i_cl_27, i_in_28, i_cl_28, i_in_29, i_cl_29, i_in_30, i_cl_30, i_in_31, i_cl_31, i_in_32, i_cl_32, i_in_33, i_cl_33, zB_f ef, hv, hcl, hC_rf hi10, false_implies, true_implies, implies_true, not_true_eq_false, not_false_eq_true, true_or, or_true, and_self, and_assoc, Option.some.injEq, Sum.inl.injEq, Sum.inr.injEq, Prod.mk.injEq, Value.int.injEq, Value.ref.injEq, Value.long.injEq, true_and, and_true, exists_and_left, exists_and_right, exists_eq_left, exists_eq_left', List.getElem?_cons_zero, List.getElem?_cons_succ, List.length_cons, List.length_nil, List.set_cons_zero, List.set_cons_succ, Option.toList, List.cons_append, List.nil_append, List.append_nil, Nat.zero_add, Nat.le_refl, Nat.zero_le, beq_self_eq_true, Option.isNone_none]
        refine ⟨⟨_, rfl⟩, mh_ez (on_m (c_X0_keeps c4 hi (by omega) (tX_hA t4) (show R + 41 + 20 ≤ R + 124 by omega))) (Nat.le_of_ble_eq_true rfl) (Nat.le_of_ble_eq_true rfl) (Nat.le_of_ble_eq_true rfl) (Nat.le_of_ble_eq_true rfl) ?_⟩
        rintro _ _ ⟨rfl, h3, rfl, t5, x5⟩
        rw [show hC h3 (R + 41) (cV 41 G4) (Y' 2) = hA h3 R G4 Y' by
          have := hA_mnd (h := h3) (R := R) (G := G4) (Y := Y')
          rw [hA_self x5 (by omega)] at this
          rw [this, hA_self x5 (by omega)]]
        simp +decide only [e_push, e_il, e_ll, e_al, e_is, e_ls, e_as, e_asN, e_inc, e_bin, e_un, e_div, e_i2l, e_l2i, e_binL, e_lneg, e_lcmp, e_dup, e_dup2, e_pop, e_if1, e_if2, e_ifnN, e_ifnR, e_sw, e_sw0, e_sw1, e_gi, e_gr, e_pi, e_pz, e_pr, e_ald, e_lald, e_aald, e_tald, e_alen, e_tlen, e_ast, e_last, e_aast, e_newa, e_newl, e_newq, e_new, e_oi, e_cv, e_cvS, e_ci, e_cs, e_pop0, e_popS, e_iret, e_zret, e_cret, e_bret, e_aret, e_aretN, e_vret, e_gs, e_ac, e_mm, e_ma, e_ldcs, e_gcs, e_gfm, e_gsV, e_gsC, e_bln, e_bld, mh_get, mh_set, mh_one, mh_two, Value.category, mh_po, mh_mc, mh_ms, mh_d, hA_0, hA_n0, hA_n1, hA_n6, hA_n7, hA_i0, hA_m0, hA_m1, hA_m6, hA_g0, hA_t0, hA_69, hA_70, hA_71, hA_72, hA_p0, hA_pn, hA_pm, hA_p71, hA_p72, hA_now, hA_img, hA_mnd, va_up_self, va_up_ne, bx_uu, g2_9, g2_10, g10_3, g10_4, g10_5, g10_6, g10_7, g10_8, g10_9, i_in_0, i_cl_0, i_in_1, i_cl_1, i_in_2, i_cl_2, i_in_3, i_cl_3, i_in_4, i_cl_4, i_in_5, i_cl_5, i_in_6, i_cl_6, i_in_7, i_cl_7, i_in_8, i_cl_8, i_in_9, i_cl_9, i_in_10, i_cl_10, i_in_11, i_cl_11, i_in_12, i_cl_12, i_in_13, i_cl_13, i_in_14, i_cl_14, i_in_15, i_cl_15, i_in_16, i_cl_16, i_in_17, i_cl_17, i_in_18, i_cl_18, i_in_19, i_cl_19, i_in_20, i_cl_20, i_in_21, i_cl_21, i_in_22, i_cl_22, i_in_23, i_cl_23, i_in_24, i_cl_24, i_in_25, i_cl_25, i_in_26, i_cl_26, i_in_27, i_cl_27, i_in_28, i_cl_28, i_in_29, i_cl_29, i_in_30, i_cl_30, i_in_31, i_cl_31, i_in_32, i_cl_32, i_in_33, i_cl_33, hv, hcl, q_X9_sumCosts_100, false_implies, true_implies, implies_true, not_true_eq_false, not_false_eq_true, true_or, or_true, and_self, and_assoc, Option.some.injEq, Sum.inl.injEq, Sum.inr.injEq, Prod.mk.injEq, Value.int.injEq, Value.ref.injEq, Value.long.injEq, true_and, and_true, exists_and_left, exists_and_right, exists_eq_left, exists_eq_left', List.getElem?_cons_zero, List.getElem?_cons_succ, List.length_cons, List.length_nil, List.set_cons_zero, List.set_cons_succ, Option.toList, List.cons_append, List.nil_append, List.append_nil, Nat.zero_add, Nat.le_refl, Nat.zero_le, beq_self_eq_true, Option.isNone_none]
        refine ih2 _ _ ⟨h3, _, by rw [nI_succ i], rfl, c4.m72, k4.m72, x4.trans (eY.x x5), t5, fun j hj => ?_⟩
        rw [va_up_self]
        by_cases ej : j = i
        · subst ej
          rw [pk_us, s4 j hj, if_neg (by omega), if_pos (by omega), sN, cI_t ef', (keepsC (rw' N m T k) T j).1, nI_add, nI_clamp (by have := (keepsC (rw' N m T k) T j).2; omega)]
        · rw [pk_un ej, s4 j hj]
          by_cases ej2 : j < i
          · rw [if_pos ej2, if_pos (by omega)]
          · rw [if_neg ej2, if_neg (by omega)]
    · rintro _ _ ⟨h2, G4, rfl, rfl, c4, k4, x4, t4, s4⟩
      refine b_X9_sumCosts_43 _ _ _ _ _ ?_
      have g3 : G4 41 3 = nI m := c4.1.1
      have g8 : G4 41 8 = nI (y + k) := c4.2.2.1.1
      simp +decide only [e_push, e_il, e_ll, e_al, e_is, e_ls, e_as, e_asN, e_inc, e_bin, e_un, e_div, e_i2l, e_l2i, e_binL, e_lneg, e_lcmp, e_dup, e_dup2, e_pop, e_if1, e_if2, e_ifnN, e_ifnR, e_sw, e_sw0, e_sw1, e_gi, e_gr, e_pi, e_pz, e_pr, e_ald, e_lald, e_aald, e_tald, e_alen, e_tlen, e_ast, e_last, e_aast, e_newa, e_newl, e_newq, e_new, e_oi, e_cv, e_cvS, e_ci, e_cs, e_pop0, e_popS, e_iret, e_zret, e_cret, e_bret, e_aret, e_aretN, e_vret, e_gs, e_ac, e_mm, e_ma, e_ldcs, e_gcs, e_gfm, e_gsV, e_gsC, e_bln, e_bld, mh_get, mh_set, mh_one, mh_two, Value.category, mh_po, mh_mc, mh_ms, mh_d, hA_0, hA_n0, hA_n1, hA_n6, hA_n7, hA_i0, hA_m0, hA_m1, hA_m6, hA_g0, hA_t0, hA_69, hA_70, hA_71, hA_72, hA_p0, hA_pn, hA_pm, hA_p71, hA_p72, hA_now, hA_img, hA_mnd, va_up_self, va_up_ne, bx_uu, g2_9, g2_10, g10_3, g10_4, g10_5, g10_6, g10_7, g10_8, g10_9, i_in_0, i_cl_0, i_in_1, i_cl_1, i_in_2, i_cl_2, i_in_3, i_cl_3, i_in_4, i_cl_4, i_in_5, i_cl_5, i_in_6, i_cl_6, i_in_7, i_cl_7, i_in_8, i_cl_8, i_in_9, i_cl_9, i_in_10, i_cl_10, i_in_11, i_cl_11, i_in_12, i_cl_12, i_in_13, i_cl_13, i_in_14, i_cl_14, i_in_15, i_cl_15, i_in_16, i_cl_16, i_in_17, i_cl_17, i_in_18, i_cl_18, i_in_19, i_cl_19, i_in_20, i_cl_20, i_in_21, i_cl_21, i_in_22, i_cl_22, i_in_23, i_cl_23, i_in_24, i_cl_24, i_in_25, i_cl_25, i_in_26, i_cl_26, i_in_27, i_cl_27, i_in_28, i_cl_28, i_in_29, i_cl_29, i_in_30, i_cl_30, i_in_31, i_cl_31, i_in_32, i_cl_32, i_in_33, i_cl_33, q_X9_sumCosts_43, g3, Int32.le_refl, q_X9_sumCosts_106, g8, nI_1, false_implies, true_implies, implies_true, not_true_eq_false, not_false_eq_true, true_or, or_true, and_self, and_assoc, Option.some.injEq, Sum.inl.injEq, Sum.inr.injEq, Prod.mk.injEq, Value.int.injEq, Value.ref.injEq, Value.long.injEq, true_and, and_true, exists_and_left, exists_and_right, exists_eq_left, exists_eq_left', List.getElem?_cons_zero, List.getElem?_cons_succ, List.length_cons, List.length_nil, List.set_cons_zero, List.set_cons_succ, Option.toList, List.cons_append, List.nil_append, List.append_nil, Nat.zero_add, Nat.le_refl, Nat.zero_le, beq_self_eq_true, Option.isNone_none]
      refine ih _ _ ⟨h2, _, Y', some (.int (nI m)), by rw [nI_succ k], rfl, ?_, k4.m41, x4, t4, fun i hi => ?_⟩
      · rw [cV_41, r_gn, r_yr_fd ((yS_gn N T hiN.2.1 k).iN hiN) (by rw [gn_2 hiN c.2.2.1.2 k (by omega)]; exact nI_pos (by omega)), ← rw', gn_2 hiN c.2.2.1.2 k (by omega), ← g3]
        refine c4.num (yS_up (yS_py _ _ m) (by omega)) ?_ (by rw [pk_us, nI_1]) (fun q => q.elim) (fun q h1 h2 => ?_) (fun i hi => ?_)
        · rw [pk_un (by decide), r_py_ne (by decide) (by decide)]
        · rw [pk_un (by omega), r_py_ne (by omega) (by omega)]
        · rw [pk_un (by omega), r_py_ne (by omega) (by omega)]
      · rw [va_up_ne _ _ (by decide), s4 i hi, if_pos hi]
  · rintro _ _ ⟨h1, G', Y', o, rfl, rfl, c', k', x', t', s'⟩
    refine b_X9_sumCosts_21 _ _ _ _ _ ?_
    simp +decide only [e_push, e_il, e_ll, e_al, e_is, e_ls, e_as, e_asN, e_inc, e_bin, e_un, e_div, e_i2l, e_l2i, e_binL, e_lneg, e_lcmp, e_dup, e_dup2, e_pop, e_if1, e_if2, e_ifnN, e_ifnR, e_sw, e_sw0, e_sw1, e_gi, e_gr, e_pi, e_pz, e_pr, e_ald, e_lald, e_aald, e_tald, e_alen, e_tlen, e_ast, e_last, e_aast, e_newa, e_newl, e_newq, e_new, e_oi, e_cv, e_cvS, e_ci, e_cs, e_pop0, e_popS, e_iret, e_zret, e_cret, e_bret, e_aret, e_aretN, e_vret, e_gs, e_ac, e_mm, e_ma, e_ldcs, e_gcs, e_gfm, e_gsV, e_gsC, e_bln, e_bld, mh_get, mh_set, mh_one, mh_two, Value.category, mh_po, mh_mc, mh_ms, mh_d, hA_0, hA_n0, hA_n1, hA_n6, hA_n7, hA_i0, hA_m0, hA_m1, hA_m6, hA_g0, hA_t0, hA_69, hA_70, hA_71, hA_72, hA_p0, hA_pn, hA_pm, hA_p71, hA_p72, hA_now, hA_img, hA_mnd, va_up_self, va_up_ne, bx_uu, g2_9, g2_10, g10_3, g10_4, g10_5, g10_6, g10_7, g10_8, g10_9, i_in_0, i_cl_0, i_in_1, i_cl_1, i_in_2, i_cl_2, i_in_3, i_cl_3, i_in_4, i_cl_4, i_in_5, i_cl_5, i_in_6, i_cl_6, i_in_7, i_cl_7, i_in_8, i_cl_8, i_in_9, i_cl_9, i_in_10, i_cl_10, i_in_11, i_cl_11, i_in_12, i_cl_12, i_in_13, i_cl_13, i_in_14, i_cl_14, i_in_15, i_cl_15, i_in_16, i_cl_16, i_in_17, i_cl_17, i_in_18, i_cl_18, i_in_19, i_cl_19, i_in_20, i_cl_20, i_in_21, i_cl_21, i_in_22, i_cl_22, i_in_23, i_cl_23, i_in_24, i_cl_24, i_in_25, i_cl_25, i_in_26, i_cl_26, i_in_27, i_cl_27, i_in_28, i_cl_28, i_in_29, i_cl_29, i_in_30, i_cl_30, i_in_31, i_cl_31, i_in_32, i_cl_32, i_in_33, i_cl_33, q_X9_sumCosts_21, Int32.le_refl, false_implies, true_implies, implies_true, not_true_eq_false, not_false_eq_true, true_or, or_true, and_self, and_assoc, Option.some.injEq, Sum.inl.injEq, Sum.inr.injEq, Prod.mk.injEq, Value.int.injEq, Value.ref.injEq, Value.long.injEq, true_and, and_true, exists_and_left, exists_and_right, exists_eq_left, exists_eq_left', List.getElem?_cons_zero, List.getElem?_cons_succ, List.length_cons, List.length_nil, List.set_cons_zero, List.set_cons_succ, Option.toList, List.cons_append, List.nil_append, List.append_nil, Nat.zero_add, Nat.le_refl, Nat.zero_le, beq_self_eq_true, Option.isNone_none]
    subst hPo
    exact ⟨rfl, h1, G', Y', rfl, k', x', t', s'⟩
theorem pr_scrap : pP E R yX9_scrap yX10_scrap [.int v, .int w] := pP.mk fun h0 D G Y A L F hw hT hB => by
  obtain ⟨m, T, y, c, hy, hb⟩ := hw.1
  have hm := c.1.2.2
  have g3 : G 1 3 = nI m := c.1.1
  by_cases ok : (1 ≤ v ∧ v ≤ 60) ∧ 0 ≤ w ∧ w ≤ 1
  · obtain ⟨K, hK, rfl⟩ := (i_iff 60 (by decide)).mp ⟨Int32.le_trans (by decide) ok.1.1, ok.1.2⟩
    have hK1 : 1 ≤ K := (nI_leI (a := 1) (by decide) (by omega)).mp ok.1.1
    obtain ⟨W, hW, rfl⟩ := (i_iff 1 (by decide)).mp ok.2
    have n0 : ¬ nI K < 1 := Int32.not_lt.mpr ok.1.1
    have n1 : ¬ (60 : Int32) < nI K := Int32.not_lt.mpr ok.1.2
    refine ⟨_, kN D G Y (A 1), ?_, mKt (d := 9) (by decide) hw (fun h2 => c_X10_scrap c.iN hK1 (show K ≤ 60 by omega) (show W ≤ 1 by omega))⟩
    refine m_X9_scrap [some (.ref R), some (.int (nI K)), some (.int (nI W)), none, none, none] rfl (Nat.le_of_ble_eq_true rfl) ?_
    by_cases m0 : m = 0
    · subst m0
      have z0 : nI 0 = 0 := rfl
      simp +decide only [e_push, e_il, e_ll, e_al, e_is, e_ls, e_as, e_asN, e_inc, e_bin, e_un, e_div, e_i2l, e_l2i, e_binL, e_lneg, e_lcmp, e_dup, e_dup2, e_pop, e_if1, e_if2, e_ifnN, e_ifnR, e_sw, e_sw0, e_sw1, e_gi, e_gr, e_pi, e_pz, e_pr, e_ald, e_lald, e_aald, e_tald, e_alen, e_tlen, e_ast, e_last, e_aast, e_newa, e_newl, e_newq, e_new, e_oi, e_cv, e_cvS, e_ci, e_cs, e_pop0, e_popS, e_iret, e_zret, e_cret, e_bret, e_aret, e_aretN, e_vret, e_gs, e_ac, e_mm, e_ma, e_ldcs, e_gcs, e_gfm, e_gsV, e_gsC, e_bln, e_bld, mh_get, mh_set, mh_one, mh_two, Value.category, mh_po, mh_mc, mh_ms, mh_d, hA_0, hA_n0, hA_n1, hA_n6, hA_n7, hA_i0, hA_m0, hA_m1, hA_m6, hA_g0, hA_t0, hA_69, hA_70, hA_71, hA_72, hA_p0, hA_pn, hA_pm, hA_p71, hA_p72, hA_now, hA_img, hA_mnd, va_up_self, va_up_ne, bx_uu, g2_9, g2_10, g10_3, g10_4, g10_5, g10_6, g10_7, g10_8, g10_9, i_in_0, i_cl_0, i_in_1, i_cl_1, i_in_2, i_cl_2, i_in_3, i_cl_3, i_in_4, i_cl_4, i_in_5, i_cl_5, i_in_6, i_cl_6, i_in_7, i_cl_7, i_in_8, i_cl_8, i_in_9, i_cl_9, i_in_10, i_cl_10, i_in_11, i_cl_11, i_in_12, i_cl_12, i_in_13, i_cl_13, i_in_14, i_cl_14, i_in_15, i_cl_15, i_in_16, i_cl_16, i_in_17, i_cl_17, i_in_18, i_cl_18, i_in_19, i_cl_19, i_in_20, i_cl_20, i_in_21, i_cl_21, i_in_22, i_cl_22, i_in_23, i_cl_23, i_in_24, i_cl_24, i_in_25, i_cl_25, i_in_26, i_cl_26, i_in_27, i_cl_27, i_in_28, i_cl_28, i_in_29, i_cl_29, i_in_30, i_cl_30, i_in_31, i_cl_31, i_in_32, i_cl_32, i_in_33, i_cl_33, q_X9_scrap_0, n0, n1, nI_pos (show W < 2 ^ 31 by omega), ok.2.2, g3, z0, false_implies, true_implies, implies_true, not_true_eq_false, not_false_eq_true, true_or, or_true, and_self, and_assoc, Option.some.injEq, Sum.inl.injEq, Sum.inr.injEq, Prod.mk.injEq, Value.int.injEq, Value.ref.injEq, Value.long.injEq, true_and, and_true, exists_and_left, exists_and_right, exists_eq_left, exists_eq_left', List.getElem?_cons_zero, List.getElem?_cons_succ, List.length_cons, List.length_nil, List.set_cons_zero, List.set_cons_succ, Option.toList, List.cons_append, List.nil_append, List.append_nil, Nat.zero_add, Nat.le_refl, Nat.zero_le, beq_self_eq_true, Option.isNone_none]
      first | exact pK0 hw hT (by rw [r_lw, cI_t (by decide)]) | exact ⟨⟨_, rfl⟩, pK0 hw hT (by rw [r_lw, cI_t (by decide)])⟩
    · have nm0 : ¬ nI m = 0 := nI_ne0 (by omega) (by omega)
      simp +decide only [e_push, e_il, e_ll, e_al, e_is, e_ls, e_as, e_asN, e_inc, e_bin, e_un, e_div, e_i2l, e_l2i, e_binL, e_lneg, e_lcmp, e_dup, e_dup2, e_pop, e_if1, e_if2, e_ifnN, e_ifnR, e_sw, e_sw0, e_sw1, e_gi, e_gr, e_pi, e_pz, e_pr, e_ald, e_lald, e_aald, e_tald, e_alen, e_tlen, e_ast, e_last, e_aast, e_newa, e_newl, e_newq, e_new, e_oi, e_cv, e_cvS, e_ci, e_cs, e_pop0, e_popS, e_iret, e_zret, e_cret, e_bret, e_aret, e_aretN, e_vret, e_gs, e_ac, e_mm, e_ma, e_ldcs, e_gcs, e_gfm, e_gsV, e_gsC, e_bln, e_bld, mh_get, mh_set, mh_one, mh_two, Value.category, mh_po, mh_mc, mh_ms, mh_d, hA_0, hA_n0, hA_n1, hA_n6, hA_n7, hA_i0, hA_m0, hA_m1, hA_m6, hA_g0, hA_t0, hA_69, hA_70, hA_71, hA_72, hA_p0, hA_pn, hA_pm, hA_p71, hA_p72, hA_now, hA_img, hA_mnd, va_up_self, va_up_ne, bx_uu, g2_9, g2_10, g10_3, g10_4, g10_5, g10_6, g10_7, g10_8, g10_9, i_in_0, i_cl_0, i_in_1, i_cl_1, i_in_2, i_cl_2, i_in_3, i_cl_3, i_in_4, i_cl_4, i_in_5, i_cl_5, i_in_6, i_cl_6, i_in_7, i_cl_7, i_in_8, i_cl_8, i_in_9, i_cl_9, i_in_10, i_cl_10, i_in_11, i_cl_11, i_in_12, i_cl_12, i_in_13, i_cl_13, i_in_14, i_cl_14, i_in_15, i_cl_15, i_in_16, i_cl_16, i_in_17, i_cl_17, i_in_18, i_cl_18, i_in_19, i_cl_19, i_in_20, i_cl_20, i_in_21, i_cl_21, i_in_22, i_cl_22, i_in_23, i_cl_23, i_in_24, i_cl_24, i_in_25, i_cl_25, i_in_26, i_cl_26, i_in_27, i_cl_27, i_in_28, i_cl_28, i_in_29, i_cl_29, i_in_30, i_cl_30, i_in_31, i_cl_31, i_in_32, i_cl_32, i_in_33, i_cl_33, q_X9_scrap_0, n0, n1, nI_pos (show W < 2 ^ 31 by omega), ok.2.2, g3, nm0, false_implies, true_implies, implies_true, not_true_eq_false, not_false_eq_true, true_or, or_true, and_self, and_assoc, Option.some.injEq, Sum.inl.injEq, Sum.inr.injEq, Prod.mk.injEq, Value.int.injEq, Value.ref.injEq, Value.long.injEq, true_and, and_true, exists_and_left, exists_and_right, exists_eq_left, exists_eq_left', List.getElem?_cons_zero, List.getElem?_cons_succ, List.length_cons, List.length_nil, List.set_cons_zero, List.set_cons_succ, Option.toList, List.cons_append, List.nil_append, List.append_nil, Nat.zero_add, Nat.le_refl, Nat.zero_le, beq_self_eq_true, Option.isNone_none]
      obtain ⟨⟨c0, h5, hc0⟩, -⟩ := hb
      refine ⟨⟨_, rfl⟩, mh_ez (c_X9_sumCosts c (by omega) hT) (Nat.le_of_ble_eq_true rfl) (Nat.le_of_ble_eq_true rfl) (Nat.le_of_ble_eq_true rfl) (Nat.le_of_ble_eq_true rfl) ?_⟩
      rintro _ _ ⟨rfl, h1, G', Y', rfl, k', x', t', s'⟩
      have g6 : G' 1 6 = nI c0 := by rw [k'.1 1 (by omega)]; exact (c.2.2.2.2.1 trivial).1.trans h5
      have g3' : G' 1 3 = nI m := by rw [k'.1 1 (by omega)]; exact g3
      simp +decide only [e_push, e_il, e_ll, e_al, e_is, e_ls, e_as, e_asN, e_inc, e_bin, e_un, e_div, e_i2l, e_l2i, e_binL, e_lneg, e_lcmp, e_dup, e_dup2, e_pop, e_if1, e_if2, e_ifnN, e_ifnR, e_sw, e_sw0, e_sw1, e_gi, e_gr, e_pi, e_pz, e_pr, e_ald, e_lald, e_aald, e_tald, e_alen, e_tlen, e_ast, e_last, e_aast, e_newa, e_newl, e_newq, e_new, e_oi, e_cv, e_cvS, e_ci, e_cs, e_pop0, e_popS, e_iret, e_zret, e_cret, e_bret, e_aret, e_aretN, e_vret, e_gs, e_ac, e_mm, e_ma, e_ldcs, e_gcs, e_gfm, e_gsV, e_gsC, e_bln, e_bld, mh_get, mh_set, mh_one, mh_two, Value.category, mh_po, mh_mc, mh_ms, mh_d, hA_0, hA_n0, hA_n1, hA_n6, hA_n7, hA_i0, hA_m0, hA_m1, hA_m6, hA_g0, hA_t0, hA_69, hA_70, hA_71, hA_72, hA_p0, hA_pn, hA_pm, hA_p71, hA_p72, hA_now, hA_img, hA_mnd, va_up_self, va_up_ne, bx_uu, g2_9, g2_10, g10_3, g10_4, g10_5, g10_6, g10_7, g10_8, g10_9, i_in_0, i_cl_0, i_in_1, i_cl_1, i_in_2, i_cl_2, i_in_3, i_cl_3, i_in_4, i_cl_4, i_in_5, i_cl_5, i_in_6, i_cl_6, i_in_7, i_cl_7, i_in_8, i_cl_8, i_in_9, i_cl_9, i_in_10, i_cl_10, i_in_11, i_cl_11, i_in_12, i_cl_12, i_in_13, i_cl_13, i_in_14, i_cl_14, i_in_15, i_cl_15, i_in_16, i_cl_16, i_in_17, i_cl_17, i_in_18, i_cl_18, i_in_19, i_cl_19, i_in_20, i_cl_20, i_in_21, i_cl_21, i_in_22, i_cl_22, i_in_23, i_cl_23, i_in_24, i_cl_24, i_in_25, i_cl_25, i_in_26, i_cl_26, i_in_27, i_cl_27, i_in_28, i_cl_28, i_in_29, i_cl_29, i_in_30, i_cl_30, i_in_31, i_cl_31, i_in_32, i_cl_32, i_in_33, i_cl_33, g6, false_implies, true_implies, implies_true, not_true_eq_false, not_false_eq_true, true_or, or_true, and_self, and_assoc, Option.some.injEq, Sum.inl.injEq, Sum.inr.injEq, Prod.mk.injEq, Value.int.injEq, Value.ref.injEq, Value.long.injEq, true_and, and_true, exists_and_left, exists_and_right, exists_eq_left, exists_eq_left', List.getElem?_cons_zero, List.getElem?_cons_succ, List.length_cons, List.length_nil, List.set_cons_zero, List.set_cons_succ, Option.toList, List.cons_append, List.nil_append, List.append_nil, Nat.zero_add, Nat.le_refl, Nat.zero_le, beq_self_eq_true, Option.isNone_none]
      have fle : ∀ i, sN (A 1) m T i K ≤ 201 * K := fun i => sN_le _ _ _ _ _
      have sle : sumN (fun i => sN (A 1) m T i K) m ≤ 201 * K * m := sumN_le m (fun i _ => fle i)
      have hmul : 201 * K * m ≤ 201 * 60 * 10 := Nat.mul_le_mul (Nat.mul_le_mul_left _ (by omega)) hm
      have sle2 : ∀ k, k ≤ m → sumN (fun i => sN (A 1) m T i K) k ≤ 201 * 60 * 10 := fun k hk => Nat.le_trans (sumN_le k (fun i _ => fle i)) (Nat.mul_le_mul (Nat.mul_le_mul_left _ (by omega)) (by omega))
      have sge : ∀ k, k ≤ m → ∀ i, i < k → sN (A 1) m T i K ≤ sumN (fun i => sN (A 1) m T i K) k := by
        intro k
        induction k with
        | zero => intro _ i hi; omega
        | succ k ih =>
          intro hk i hi
          rw [sumN]
          by_cases e : i = k
          · subst e; omega
          · have := ih (by omega) i (by omega); omega
      generalize hf : (fun i => sN (A 1) m T i K) = f at *
      have hfi : ∀ i, sN (A 1) m T i K = f i := fun i => by rw [← hf]
      refine mh_for m (fun k lv h' => lv = [some (.ref R), some (.int (nI K)), some (.int (nI W)), some (.int (nI (dr f k))), some (.int (nI (c0 + sumN f k))), some (.int (nI k))] ∧ h' = hA h1 R G' Y') ?_ ?_ _ _ ⟨rfl, rfl⟩
      · rintro k _ _ hk ⟨rfl, rfl⟩ ih
        refine b_X9_scrap_55 _ _ _ _ _ ?_
        have hge : ¬ nI m ≤ nI k := nI_ge hk (by omega)
        have hge2 : ¬ (10 : Int32) ≤ nI k := nI_ge (b := 10) (by omega) (by omega)
        have hv : vp_in (nI k) 10 := vp_in_nI (by omega) (by decide)
        have hcl : (nI k).toNatClampNeg = k := nI_clamp (by omega)
        have hdl : dr f k < m := by
          rcases Nat.eq_zero_or_pos k with z | z
          · subst z; rw [dr]; omega
          · have := dr_lt f (k - 1); rw [show k - 1 + 1 = k by omega] at this; omega
        have hvd : vp_in (nI (dr f k)) 10 := vp_in_nI (by omega) (by decide)
        have hcd : (nI (dr f k)).toNatClampNeg = dr f k := nI_clamp (by omega)
        have sk : G' 72 k = nI (f k) := by rw [s' k hk, hfi]
        have sd : G' 72 (dr f k) = nI (f (dr f k)) := by rw [s' _ hdl, hfi]
        simp +decide only [e_push, e_il, e_ll, e_al, e_is, e_ls, e_as, e_asN, e_inc, e_bin, e_un, e_div, e_i2l, e_l2i, e_binL, e_lneg, e_lcmp, e_dup, e_dup2, e_pop, e_if1, e_if2, e_ifnN, e_ifnR, e_sw, e_sw0, e_sw1, e_gi, e_gr, e_pi, e_pz, e_pr, e_ald, e_lald, e_aald, e_tald, e_alen, e_tlen, e_ast, e_last, e_aast, e_newa, e_newl, e_newq, e_new, e_oi, e_cv, e_cvS, e_ci, e_cs, e_pop0, e_popS, e_iret, e_zret, e_cret, e_bret, e_aret, e_aretN, e_vret, e_gs, e_ac, e_mm, e_ma, e_ldcs, e_gcs, e_gfm, e_gsV, e_gsC, e_bln, e_bld, mh_get, mh_set, mh_one, mh_two, Value.category, mh_po, mh_mc, mh_ms, mh_d, hA_0, hA_n0, hA_n1, hA_n6, hA_n7, hA_i0, hA_m0, hA_m1, hA_m6, hA_g0, hA_t0, hA_69, hA_70, hA_71, hA_72, hA_p0, hA_pn, hA_pm, hA_p71, hA_p72, hA_now, hA_img, hA_mnd, va_up_self, va_up_ne, bx_uu, g2_9, g2_10, g10_3, g10_4, g10_5, g10_6, g10_7, g10_8, g10_9, i_in_0, i_cl_0, i_in_1, i_cl_1, i_in_2, i_cl_2, i_in_3, i_cl_3, i_in_4, i_cl_4, i_in_5, i_cl_5, i_in_6, i_cl_6, i_in_7, i_cl_7, i_in_8, i_cl_8, i_in_9, i_cl_9, i_in_10, i_cl_10, i_in_11, i_cl_11, i_in_12, i_cl_12, i_in_13, i_cl_13, i_in_14, i_cl_14, i_in_15, i_cl_15, i_in_16, i_cl_16, i_in_17, i_cl_17, i_in_18, i_cl_18, i_in_19, i_cl_19, i_in_20, i_cl_20, i_in_21, i_cl_21, i_in_22, i_cl_22, i_in_23, i_cl_23, i_in_24, i_cl_24, i_in_25, i_cl_25, i_in_26, i_cl_26, i_in_27, i_cl_27, i_in_28, i_cl_28, i_in_29, i_cl_29, i_in_30, i_cl_30, i_in_31, i_cl_31, i_in_32, i_cl_32, i_in_33, i_cl_33, q_X9_scrap_55, g3', hge, hge2, hv, hcl, hvd, hcd, sk, sd, nI_add, false_implies, true_implies, implies_true, not_true_eq_false, not_false_eq_true, true_or, or_true, and_self, and_assoc, Option.some.injEq, Sum.inl.injEq, Sum.inr.injEq, Prod.mk.injEq, Value.int.injEq, Value.ref.injEq, Value.long.injEq, true_and, and_true, exists_and_left, exists_and_right, exists_eq_left, exists_eq_left', List.getElem?_cons_zero, List.getElem?_cons_succ, List.length_cons, List.length_nil, List.set_cons_zero, List.set_cons_succ, Option.toList, List.cons_append, List.nil_append, List.append_nil, Nat.zero_add, Nat.le_refl, Nat.zero_le, beq_self_eq_true, Option.isNone_none]
        have lk := fle k
        have ld := fle (dr f k)
        rw [hfi] at lk ld
        refine ⟨fun z => ?_, fun z => ?_⟩
        · have z : ¬ f (dr f k) < f k := fun q => absurd z (nI_ge q (by omega))
          simp +decide only [e_push, e_il, e_ll, e_al, e_is, e_ls, e_as, e_asN, e_inc, e_bin, e_un, e_div, e_i2l, e_l2i, e_binL, e_lneg, e_lcmp, e_dup, e_dup2, e_pop, e_if1, e_if2, e_ifnN, e_ifnR, e_sw, e_sw0, e_sw1, e_gi, e_gr, e_pi, e_pz, e_pr, e_ald, e_lald, e_aald, e_tald, e_alen, e_tlen, e_ast, e_last, e_aast, e_newa, e_newl, e_newq, e_new, e_oi, e_cv, e_cvS, e_ci, e_cs, e_pop0, e_popS, e_iret, e_zret, e_cret, e_bret, e_aret, e_aretN, e_vret, e_gs, e_ac, e_mm, e_ma, e_ldcs, e_gcs, e_gfm, e_gsV, e_gsC, e_bln, e_bld, mh_get, mh_set, mh_one, mh_two, Value.category, mh_po, mh_mc, mh_ms, mh_d, hA_0, hA_n0, hA_n1, hA_n6, hA_n7, hA_i0, hA_m0, hA_m1, hA_m6, hA_g0, hA_t0, hA_69, hA_70, hA_71, hA_72, hA_p0, hA_pn, hA_pm, hA_p71, hA_p72, hA_now, hA_img, hA_mnd, va_up_self, va_up_ne, bx_uu, g2_9, g2_10, g10_3, g10_4, g10_5, g10_6, g10_7, g10_8, g10_9, i_in_0, i_cl_0, i_in_1, i_cl_1, i_in_2, i_cl_2, i_in_3, i_cl_3, i_in_4, i_cl_4, i_in_5, i_cl_5, i_in_6, i_cl_6, i_in_7, i_cl_7, i_in_8, i_cl_8, i_in_9, i_cl_9, i_in_10, i_cl_10, i_in_11, i_cl_11, i_in_12, i_cl_12, i_in_13, i_cl_13, i_in_14, i_cl_14, i_in_15, i_cl_15, i_in_16, i_cl_16, i_in_17, i_cl_17, i_in_18, i_cl_18, i_in_19, i_cl_19, i_in_20, i_cl_20, i_in_21, i_cl_21, i_in_22, i_cl_22, i_in_23, i_cl_23, i_in_24, i_cl_24, i_in_25, i_cl_25, i_in_26, i_cl_26, i_in_27, i_cl_27, i_in_28, i_cl_28, i_in_29, i_cl_29, i_in_30, i_cl_30, i_in_31, i_cl_31, i_in_32, i_cl_32, i_in_33, i_cl_33, q_X9_scrap_105, false_implies, true_implies, implies_true, not_true_eq_false, not_false_eq_true, true_or, or_true, and_self, and_assoc, Option.some.injEq, Sum.inl.injEq, Sum.inr.injEq, Prod.mk.injEq, Value.int.injEq, Value.ref.injEq, Value.long.injEq, true_and, and_true, exists_and_left, exists_and_right, exists_eq_left, exists_eq_left', List.getElem?_cons_zero, List.getElem?_cons_succ, List.length_cons, List.length_nil, List.set_cons_zero, List.set_cons_succ, Option.toList, List.cons_append, List.nil_append, List.append_nil, Nat.zero_add, Nat.le_refl, Nat.zero_le, beq_self_eq_true, Option.isNone_none]
          exact ih _ _ ⟨by rw [nI_succ k, dr, cI_f z, sumN, Nat.add_assoc], rfl⟩
        · have z : f (dr f k) < f k := Nat.lt_of_not_le (fun q => z (nI_le q (by omega)))
          simp +decide only [e_push, e_il, e_ll, e_al, e_is, e_ls, e_as, e_asN, e_inc, e_bin, e_un, e_div, e_i2l, e_l2i, e_binL, e_lneg, e_lcmp, e_dup, e_dup2, e_pop, e_if1, e_if2, e_ifnN, e_ifnR, e_sw, e_sw0, e_sw1, e_gi, e_gr, e_pi, e_pz, e_pr, e_ald, e_lald, e_aald, e_tald, e_alen, e_tlen, e_ast, e_last, e_aast, e_newa, e_newl, e_newq, e_new, e_oi, e_cv, e_cvS, e_ci, e_cs, e_pop0, e_popS, e_iret, e_zret, e_cret, e_bret, e_aret, e_aretN, e_vret, e_gs, e_ac, e_mm, e_ma, e_ldcs, e_gcs, e_gfm, e_gsV, e_gsC, e_bln, e_bld, mh_get, mh_set, mh_one, mh_two, Value.category, mh_po, mh_mc, mh_ms, mh_d, hA_0, hA_n0, hA_n1, hA_n6, hA_n7, hA_i0, hA_m0, hA_m1, hA_m6, hA_g0, hA_t0, hA_69, hA_70, hA_71, hA_72, hA_p0, hA_pn, hA_pm, hA_p71, hA_p72, hA_now, hA_img, hA_mnd, va_up_self, va_up_ne, bx_uu, g2_9, g2_10, g10_3, g10_4, g10_5, g10_6, g10_7, g10_8, g10_9, i_in_0, i_cl_0, i_in_1, i_cl_1, i_in_2, i_cl_2, i_in_3, i_cl_3, i_in_4, i_cl_4, i_in_5, i_cl_5, i_in_6, i_cl_6, i_in_7, i_cl_7, i_in_8, i_cl_8, i_in_9, i_cl_9, i_in_10, i_cl_10, i_in_11, i_cl_11, i_in_12, i_cl_12, i_in_13, i_cl_13, i_in_14, i_cl_14, i_in_15, i_cl_15, i_in_16, i_cl_16, i_in_17, i_cl_17, i_in_18, i_cl_18, i_in_19, i_cl_19, i_in_20, i_cl_20, i_in_21, i_cl_21, i_in_22, i_cl_22, i_in_23, i_cl_23, i_in_24, i_cl_24, i_in_25, i_cl_25, i_in_26, i_cl_26, i_in_27, i_cl_27, i_in_28, i_cl_28, i_in_29, i_cl_29, i_in_30, i_cl_30, i_in_31, i_cl_31, i_in_32, i_cl_32, i_in_33, i_cl_33, q_X9_scrap_105, false_implies, true_implies, implies_true, not_true_eq_false, not_false_eq_true, true_or, or_true, and_self, and_assoc, Option.some.injEq, Sum.inl.injEq, Sum.inr.injEq, Prod.mk.injEq, Value.int.injEq, Value.ref.injEq, Value.long.injEq, true_and, and_true, exists_and_left, exists_and_right, exists_eq_left, exists_eq_left', List.getElem?_cons_zero, List.getElem?_cons_succ, List.length_cons, List.length_nil, List.set_cons_zero, List.set_cons_succ, Option.toList, List.cons_append, List.nil_append, List.append_nil, Nat.zero_add, Nat.le_refl, Nat.zero_le, beq_self_eq_true, Option.isNone_none]
          exact ih _ _ ⟨by rw [nI_succ k, dr, cI_t z, sumN, Nat.add_assoc], rfl⟩
      · rintro _ _ ⟨rfl, rfl⟩
        refine b_X9_scrap_55 _ _ _ _ _ ?_
        obtain ⟨m', hm'⟩ : ∃ m', m = m' + 1 := ⟨m - 1, by omega⟩
        have hd := dr_lt f m'
        rw [← hm'] at hd
        have hC : c0 + sumN f m < 2 ^ 31 := by have := sle2 m (Nat.le_refl m); omega
        have hfC : ∀ i, i < m → f i ≤ c0 + sumN f m := fun i hi => by have := sge m (Nat.le_refl m) i hi; rw [hfi] at this; omega
        have hg : ∀ i, i < m → r_sk (A 1) m T K i = nI (c0 + sumN f m - f i) := fun i hi => by
          rw [sk_eq c.iN c.2.2.1.2 h5 hi (by omega), hf, hfi]
        have hlw : r_lw (r_sk (A 1) m T K) m = (nI (dr f m), r_sk (A 1) m T K (dr f m)) := by
          have := lw_dr (m := m) hC hfC hg hm m' (by omega)
          rwa [← hm'] at this
        have nn : ¬ nI (dr f m) < 0 := nI_pos (by omega)
        have hvd : vp_in (nI (dr f m)) 10 := vp_in_nI (by omega) (by decide)
        have hcd : (nI (dr f m)).toNatClampNeg = dr f m := nI_clamp (by omega)
        have sd : G' 72 (dr f m) = nI (f (dr f m)) := by rw [s' _ hd, hfi]
        rw [hlw, cI_f nn]
        rcases (show W = 0 ∨ W = 1 by omega) with rfl | rfl
        · simp +decide only [e_push, e_il, e_ll, e_al, e_is, e_ls, e_as, e_asN, e_inc, e_bin, e_un, e_div, e_i2l, e_l2i, e_binL, e_lneg, e_lcmp, e_dup, e_dup2, e_pop, e_if1, e_if2, e_ifnN, e_ifnR, e_sw, e_sw0, e_sw1, e_gi, e_gr, e_pi, e_pz, e_pr, e_ald, e_lald, e_aald, e_tald, e_alen, e_tlen, e_ast, e_last, e_aast, e_newa, e_newl, e_newq, e_new, e_oi, e_cv, e_cvS, e_ci, e_cs, e_pop0, e_popS, e_iret, e_zret, e_cret, e_bret, e_aret, e_aretN, e_vret, e_gs, e_ac, e_mm, e_ma, e_ldcs, e_gcs, e_gfm, e_gsV, e_gsC, e_bln, e_bld, mh_get, mh_set, mh_one, mh_two, Value.category, mh_po, mh_mc, mh_ms, mh_d, hA_0, hA_n0, hA_n1, hA_n6, hA_n7, hA_i0, hA_m0, hA_m1, hA_m6, hA_g0, hA_t0, hA_69, hA_70, hA_71, hA_72, hA_p0, hA_pn, hA_pm, hA_p71, hA_p72, hA_now, hA_img, hA_mnd, va_up_self, va_up_ne, bx_uu, g2_9, g2_10, g10_3, g10_4, g10_5, g10_6, g10_7, g10_8, g10_9, i_in_0, i_cl_0, i_in_1, i_cl_1, i_in_2, i_cl_2, i_in_3, i_cl_3, i_in_4, i_cl_4, i_in_5, i_cl_5, i_in_6, i_cl_6, i_in_7, i_cl_7, i_in_8, i_cl_8, i_in_9, i_cl_9, i_in_10, i_cl_10, i_in_11, i_cl_11, i_in_12, i_cl_12, i_in_13, i_cl_13, i_in_14, i_cl_14, i_in_15, i_cl_15, i_in_16, i_cl_16, i_in_17, i_cl_17, i_in_18, i_cl_18, i_in_19, i_cl_19, i_in_20, i_cl_20, i_in_21, i_cl_21, i_in_22, i_cl_22, i_in_23, i_cl_23, i_in_24, i_cl_24, i_in_25, i_cl_25, i_in_26, i_cl_26, i_in_27, i_cl_27, i_in_28, i_cl_28, i_in_29, i_cl_29, i_in_30, i_cl_30, i_in_31, i_cl_31, i_in_32, i_cl_32, i_in_33, i_cl_33, q_X9_scrap_55, g3', Int32.le_refl, q_X9_scrap_111, nI_0, q_X9_scrap_128, false_implies, true_implies, implies_true, not_true_eq_false, not_false_eq_true, true_or, or_true, and_self, and_assoc, Option.some.injEq, Sum.inl.injEq, Sum.inr.injEq, Prod.mk.injEq, Value.int.injEq, Value.ref.injEq, Value.long.injEq, true_and, and_true, exists_and_left, exists_and_right, exists_eq_left, exists_eq_left', List.getElem?_cons_zero, List.getElem?_cons_succ, List.length_cons, List.length_nil, List.set_cons_zero, List.set_cons_succ, Option.toList, List.cons_append, List.nil_append, List.append_nil, Nat.zero_add, Nat.le_refl, Nat.zero_le, beq_self_eq_true, Option.isNone_none]
          exact pK.mk (by simp) x' t' (k'.kN hw)
        · have a0 : ¬ nI 1 = 0 := by decide
          simp +decide only [e_push, e_il, e_ll, e_al, e_is, e_ls, e_as, e_asN, e_inc, e_bin, e_un, e_div, e_i2l, e_l2i, e_binL, e_lneg, e_lcmp, e_dup, e_dup2, e_pop, e_if1, e_if2, e_ifnN, e_ifnR, e_sw, e_sw0, e_sw1, e_gi, e_gr, e_pi, e_pz, e_pr, e_ald, e_lald, e_aald, e_tald, e_alen, e_tlen, e_ast, e_last, e_aast, e_newa, e_newl, e_newq, e_new, e_oi, e_cv, e_cvS, e_ci, e_cs, e_pop0, e_popS, e_iret, e_zret, e_cret, e_bret, e_aret, e_aretN, e_vret, e_gs, e_ac, e_mm, e_ma, e_ldcs, e_gcs, e_gfm, e_gsV, e_gsC, e_bln, e_bld, mh_get, mh_set, mh_one, mh_two, Value.category, mh_po, mh_mc, mh_ms, mh_d, hA_0, hA_n0, hA_n1, hA_n6, hA_n7, hA_i0, hA_m0, hA_m1, hA_m6, hA_g0, hA_t0, hA_69, hA_70, hA_71, hA_72, hA_p0, hA_pn, hA_pm, hA_p71, hA_p72, hA_now, hA_img, hA_mnd, va_up_self, va_up_ne, bx_uu, g2_9, g2_10, g10_3, g10_4, g10_5, g10_6, g10_7, g10_8, g10_9, i_in_0, i_cl_0, i_in_1, i_cl_1, i_in_2, i_cl_2, i_in_3, i_cl_3, i_in_4, i_cl_4, i_in_5, i_cl_5, i_in_6, i_cl_6, i_in_7, i_cl_7, i_in_8, i_cl_8, i_in_9, i_cl_9, i_in_10, i_cl_10, i_in_11, i_cl_11, i_in_12, i_cl_12, i_in_13, i_cl_13, i_in_14, i_cl_14, i_in_15, i_cl_15, i_in_16, i_cl_16, i_in_17, i_cl_17, i_in_18, i_cl_18, i_in_19, i_cl_19, i_in_20, i_cl_20, i_in_21, i_cl_21, i_in_22, i_cl_22, i_in_23, i_cl_23, i_in_24, i_cl_24, i_in_25, i_cl_25, i_in_26, i_cl_26, i_in_27, i_cl_27, i_in_28, i_cl_28, i_in_29, i_cl_29, i_in_30, i_cl_30, i_in_31, i_cl_31, i_in_32, i_cl_32, i_in_33, i_cl_33, q_X9_scrap_55, g3', Int32.le_refl, q_X9_scrap_111, a0, q_X9_scrap_128, hvd, hcd, sd, false_implies, true_implies, implies_true, not_true_eq_false, not_false_eq_true, true_or, or_true, and_self, and_assoc, Option.some.injEq, Sum.inl.injEq, Sum.inr.injEq, Prod.mk.injEq, Value.int.injEq, Value.ref.injEq, Value.long.injEq, true_and, and_true, exists_and_left, exists_and_right, exists_eq_left, exists_eq_left', List.getElem?_cons_zero, List.getElem?_cons_succ, List.length_cons, List.length_nil, List.set_cons_zero, List.set_cons_succ, Option.toList, List.cons_append, List.nil_append, List.append_nil, Nat.zero_add, Nat.le_refl, Nat.zero_le, beq_self_eq_true, Option.isNone_none]
          refine pK.mk ?_ x' t' (k'.kN hw)
          rw [if_neg (by decide), hg _ hd, pk_sub (hfC _ hd)]
  · refine ⟨-1000000001, kN D G Y (A 1), ?_, mK0 (d := 9) (by decide) hw (fun h2 => c_X10_scrap_bad ok)⟩
    refine m_X9_scrap [some (.ref R), some (.int v), some (.int w), none, none, none] rfl (Nat.le_of_ble_eq_true rfl) ?_
    simp +decide only [e_push, e_il, e_ll, e_al, e_is, e_ls, e_as, e_asN, e_inc, e_bin, e_un, e_div, e_i2l, e_l2i, e_binL, e_lneg, e_lcmp, e_dup, e_dup2, e_pop, e_if1, e_if2, e_ifnN, e_ifnR, e_sw, e_sw0, e_sw1, e_gi, e_gr, e_pi, e_pz, e_pr, e_ald, e_lald, e_aald, e_tald, e_alen, e_tlen, e_ast, e_last, e_aast, e_newa, e_newl, e_newq, e_new, e_oi, e_cv, e_cvS, e_ci, e_cs, e_pop0, e_popS, e_iret, e_zret, e_cret, e_bret, e_aret, e_aretN, e_vret, e_gs, e_ac, e_mm, e_ma, e_ldcs, e_gcs, e_gfm, e_gsV, e_gsC, e_bln, e_bld, mh_get, mh_set, mh_one, mh_two, Value.category, mh_po, mh_mc, mh_ms, mh_d, hA_0, hA_n0, hA_n1, hA_n6, hA_n7, hA_i0, hA_m0, hA_m1, hA_m6, hA_g0, hA_t0, hA_69, hA_70, hA_71, hA_72, hA_p0, hA_pn, hA_pm, hA_p71, hA_p72, hA_now, hA_img, hA_mnd, va_up_self, va_up_ne, bx_uu, g2_9, g2_10, g10_3, g10_4, g10_5, g10_6, g10_7, g10_8, g10_9, i_in_0, i_cl_0, i_in_1, i_cl_1, i_in_2, i_cl_2, i_in_3, i_cl_3, i_in_4, i_cl_4, i_in_5, i_cl_5, i_in_6, i_cl_6, i_in_7, i_cl_7, i_in_8, i_cl_8, i_in_9, i_cl_9, i_in_10, i_cl_10, i_in_11, i_cl_11, i_in_12, i_cl_12, i_in_13, i_cl_13, i_in_14, i_cl_14, i_in_15, i_cl_15, i_in_16, i_cl_16, i_in_17, i_cl_17, i_in_18, i_cl_18, i_in_19, i_cl_19, i_in_20, i_cl_20, i_in_21, i_cl_21, i_in_22, i_cl_22, i_in_23, i_cl_23, i_in_24, i_cl_24, i_in_25, i_cl_25, i_in_26, i_cl_26, i_in_27, i_cl_27, i_in_28, i_cl_28, i_in_29, i_cl_29, i_in_30, i_cl_30, i_in_31, i_cl_31, i_in_32, i_cl_32, i_in_33, i_cl_33, q_X9_scrap_0, false_implies, true_implies, implies_true, not_true_eq_false, not_false_eq_true, true_or, or_true, and_self, and_assoc, Option.some.injEq, Sum.inl.injEq, Sum.inr.injEq, Prod.mk.injEq, Value.int.injEq, Value.ref.injEq, Value.long.injEq, true_and, and_true, exists_and_left, exists_and_right, exists_eq_left, exists_eq_left', List.getElem?_cons_zero, List.getElem?_cons_succ, List.length_cons, List.length_nil, List.set_cons_zero, List.set_cons_succ, Option.toList, List.cons_append, List.nil_append, List.append_nil, Nat.zero_add, Nat.le_refl, Nat.zero_le, beq_self_eq_true, Option.isNone_none]
    refine ⟨fun e => ?_, fun e => ⟨fun e2 => ?_, fun e2 => ⟨fun e3 => ?_, fun e3 => ⟨fun e4 => absurd ⟨⟨Int32.not_lt.mp e, Int32.not_lt.mp e2⟩, Int32.not_lt.mp e3, e4⟩ ok, fun e4 => ?_⟩⟩⟩⟩ <;> (simp +decide only [e_push, e_il, e_ll, e_al, e_is, e_ls, e_as, e_asN, e_inc, e_bin, e_un, e_div, e_i2l, e_l2i, e_binL, e_lneg, e_lcmp, e_dup, e_dup2, e_pop, e_if1, e_if2, e_ifnN, e_ifnR, e_sw, e_sw0, e_sw1, e_gi, e_gr, e_pi, e_pz, e_pr, e_ald, e_lald, e_aald, e_tald, e_alen, e_tlen, e_ast, e_last, e_aast, e_newa, e_newl, e_newq, e_new, e_oi, e_cv, e_cvS, e_ci, e_cs, e_pop0, e_popS, e_iret, e_zret, e_cret, e_bret, e_aret, e_aretN, e_vret, e_gs, e_ac, e_mm, e_ma, e_ldcs, e_gcs, e_gfm, e_gsV, e_gsC, e_bln, e_bld, mh_get, mh_set, mh_one, mh_two, Value.category, mh_po, mh_mc, mh_ms, mh_d, hA_0, hA_n0, hA_n1, hA_n6, hA_n7, hA_i0, hA_m0, hA_m1, hA_m6, hA_g0, hA_t0, hA_69, hA_70, hA_71, hA_72, hA_p0, hA_pn, hA_pm, hA_p71, hA_p72, hA_now, hA_img, hA_mnd, va_up_self, va_up_ne, bx_uu, g2_9, g2_10, g10_3, g10_4, g10_5, g10_6, g10_7, g10_8, g10_9, i_in_0, i_cl_0, i_in_1, i_cl_1, i_in_2, i_cl_2, i_in_3, i_cl_3, i_in_4, i_cl_4, i_in_5, i_cl_5, i_in_6, i_cl_6, i_in_7, i_cl_7, i_in_8, i_cl_8, i_in_9, i_cl_9, i_in_10, i_cl_10, i_in_11, i_cl_11, i_in_12, i_cl_12, i_in_13, i_cl_13, i_in_14, i_cl_14, i_in_15, i_cl_15, i_in_16, i_cl_16, i_in_17, i_cl_17, i_in_18, i_cl_18, i_in_19, i_cl_19, i_in_20, i_cl_20, i_in_21, i_cl_21, i_in_22, i_cl_22, i_in_23, i_cl_23, i_in_24, i_cl_24, i_in_25, i_cl_25, i_in_26, i_cl_26, i_in_27, i_cl_27, i_in_28, i_cl_28, i_in_29, i_cl_29, i_in_30, i_cl_30, i_in_31, i_cl_31, i_in_32, i_cl_32, i_in_33, i_cl_33, q_X9_scrap_20, false_implies, true_implies, implies_true, not_true_eq_false, not_false_eq_true, true_or, or_true, and_self, and_assoc, Option.some.injEq, Sum.inl.injEq, Sum.inr.injEq, Prod.mk.injEq, Value.int.injEq, Value.ref.injEq, Value.long.injEq, true_and, and_true, exists_and_left, exists_and_right, exists_eq_left, exists_eq_left', List.getElem?_cons_zero, List.getElem?_cons_succ, List.length_cons, List.length_nil, List.set_cons_zero, List.set_cons_succ, Option.toList, List.cons_append, List.nil_append, List.append_nil, Nat.zero_add, Nat.le_refl, Nat.zero_le, beq_self_eq_true, Option.isNone_none]; exact pK0 hw hT rfl)
end PRK
