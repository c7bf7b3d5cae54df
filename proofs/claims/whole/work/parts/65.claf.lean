/-! PART 65: the class: a City passes years -/
theorem r_many_congr {N M : Nat → Int32} (h : ∀ q, 8 ≤ q → q < 20 → M q = N q) (sq rk but : Int32) : ∀ k, k ≤ 6 → r_many M sq rk but k = r_many N sq rk but k
  | 0, _ => rfl
  | k + 1, hk => by rw [r_many, r_many, r_many_congr h sq rk but k (by omega), h (8 + 2 * k) (by omega) (by omega), h (9 + 2 * k) (by omega) (by omega)]
theorem r_hd_congr {N M : Nat → Int32} {i : Nat} (hw : ∃ p, p < 6 ∧ N (21 + 6 * i) = nI p) (h : ∀ q, 8 ≤ q → q < 20 → M q = N q) (hs : ∀ j, j < 5 → M (20 + 6 * i + j) = N (20 + 6 * i + j)) : r_hd M i = r_hd N i := by
  obtain ⟨p, hp, hw⟩ := hw
  have e0 : M (20 + 6 * i) = N (20 + 6 * i) := hs 0 (by decide)
  have e1 : M (21 + 6 * i) = N (21 + 6 * i) := by have := hs 1 (by decide); rwa [show 20 + 6 * i + 1 = 21 + 6 * i by omega] at this
  have e2 : M (22 + 6 * i) = N (22 + 6 * i) := by have := hs 2 (by decide); rwa [show 20 + 6 * i + 2 = 22 + 6 * i by omega] at this
  have e3 : M (23 + 6 * i) = N (23 + 6 * i) := by have := hs 3 (by decide); rwa [show 20 + 6 * i + 3 = 23 + 6 * i by omega] at this
  have em : ∀ sq rk but, r_many M sq rk but 6 = r_many N sq rk but 6 := fun sq rk but => r_many_congr h sq rk but 6 (by decide)
  rw [r_hd, r_hd, e1, hw, nI_clamp (by omega)]
  unfold r_hold
  rw [e0, e2, e3, h (8 + 2 * p) (by omega) (by omega), h (9 + 2 * p) (by omega) (by omega), em, em, em]
theorem r_keeps_congr {N M : Nat → Int32} {T i : Nat} (h2 : M 2 = N 2) (hs : ∀ j, j < 5 → M (20 + 6 * i + j) = N (20 + 6 * i + j)) (hq : ∀ q, 80 ≤ q → M q = N q) : r_keeps M T i = r_keeps N T i := by
  have e0 : M (20 + 6 * i) = N (20 + 6 * i) := hs 0 (by decide)
  have e3 : M (23 + 6 * i) = N (23 + 6 * i) := by have := hs 3 (by decide); rwa [show 20 + 6 * i + 3 = 23 + 6 * i by omega] at this
  have e4 : M (24 + 6 * i) = N (24 + 6 * i) := by have := hs 4 (by decide); rwa [show 20 + 6 * i + 4 = 24 + 6 * i by omega] at this
  have et : ∀ t fa, r_tv M t fa = r_tv N t fa := fun t fa => by
    rw [r_tv, r_tv, hq _ (by omega), show (fun k => M (108 + 96 * t + k)) = (fun k => N (108 + 96 * t + k)) from funext fun k => hq _ (by omega)]
  rw [r_keeps, r_keeps, r_plain, r_plain, e0, e3, e4, h2, r_cnt_congr hq, et]
/-- a STONE is FULFILLED in this year -/
def fl (N : Nat → Int32) (i : Nat) : Prop := N (25 + 6 * i) < 0 ∧ N 2 ≤ N (24 + 6 * i) ∧ r_hd N i
/-- the first k STONES are looked at -/
noncomputable def r_fd (N : Nat → Int32) : Nat → Nat → Int32
  | 0 => N
  | k + 1 => cI (fl N k) (upd (r_fd N k) (25 + 6 * k) (N 2)) (r_fd N k)
theorem r_fd_ne {N : Nat → Int32} {q : Nat} : ∀ k, (∀ i, i < k → q ≠ 25 + 6 * i) → r_fd N k q = N q
  | 0, _ => rfl
  | k + 1, h => by
    rw [r_fd]
    by_cases e : fl N k
    · rw [cI_t e, pk_un (h k (by omega)), r_fd_ne k (fun i hi => h i (by omega))]
    · rw [cI_f e, r_fd_ne k (fun i hi => h i (by omega))]
theorem r_fd_at {N : Nat → Int32} {i : Nat} : ∀ k, i < k → r_fd N k (25 + 6 * i) = cI (fl N i) (N 2) (N (25 + 6 * i))
  | 0, h => absurd h (Nat.not_lt_zero i)
  | k + 1, h => by
    rw [r_fd]
    by_cases ei : i = k
    · subst ei
      by_cases e : fl N i
      · rw [cI_t e, cI_t e, pk_us]
      · rw [cI_f e, cI_f e, r_fd_ne i (fun j hj => by omega)]
    · by_cases e : fl N k
      · rw [cI_t e, pk_un (by omega), r_fd_at k (by omega)]
      · rw [cI_f e, r_fd_at k (by omega)]
theorem yS_fd (N : Nat → Int32) : ∀ k, k ≤ 10 → yS N (r_fd N k)
  | 0, _ => yS.rfl'
  | k + 1, h => by
    rw [r_fd]
    by_cases e : fl N k
    · rw [cI_t e]
      exact yS_up (yS_fd N k (by omega)) (Or.inr (Or.inr (Or.inr (Or.inr (Or.inr ⟨k, by omega, rfl⟩)))))
    · rw [cI_f e]
      exact yS_fd N k (by omega)
/-- the first k STONES pay -/
noncomputable def r_py (N : Nat → Int32) (T : Nat) : Nat → Nat → Int32
  | 0 => N
  | k + 1 => cI (N (25 + 6 * k) < 0) (upd (upd (r_py N T k) 5 (r_py N T k 5 + r_keeps N T k)) 6 (r_py N T k 6 + zB (N 2 = N (24 + 6 * k)))) (r_py N T k)
theorem r_py_ne {N : Nat → Int32} {T q : Nat} (h5 : q ≠ 5) (h6 : q ≠ 6) : ∀ k, r_py N T k q = N q
  | 0 => rfl
  | k + 1 => by
    rw [r_py]
    by_cases e : N (25 + 6 * k) < 0
    · rw [cI_t e, pk_un h6, pk_un h5, r_py_ne h5 h6 k]
    · rw [cI_f e, r_py_ne h5 h6 k]
theorem r_py_up {N : Nat → Int32} {T s : Nat} {v : Int32} (hs : s < 10) : ∀ k, k ≤ s → r_py (upd N (25 + 6 * s) v) T k = upd (r_py N T k) (25 + 6 * s) v
  | 0, _ => rfl
  | k + 1, hk => by
    have ek : r_keeps (upd N (25 + 6 * s) v) T k = r_keeps N T k := r_keeps_congr (pk_un (by omega)) (fun j hj => pk_un (by omega)) (fun q hq => pk_un (by omega))
    have hc : ∀ (f : Nat → Int32) (a q : Nat) (x y : Int32), a ≠ q → upd (upd f q x) a y = upd (upd f a y) q x := fun f a q x y haq => funext fun j => by
      by_cases e1 : j = a
      · subst e1; rw [pk_us, pk_un haq, pk_us]
      · by_cases e2 : j = q
        · subst e2; rw [pk_un e1, pk_us, pk_us]
        · rw [pk_un e1, pk_un e2, pk_un e2, pk_un e1]
    rw [r_py, r_py, r_py_up hs k (by omega), pk_un (show 25 + 6 * k ≠ 25 + 6 * s by omega), ek, pk_un (show 5 ≠ 25 + 6 * s by omega), pk_un (show 6 ≠ 25 + 6 * s by omega), pk_un (show 2 ≠ 25 + 6 * s by omega), pk_un (show 24 + 6 * k ≠ 25 + 6 * s by omega)]
    by_cases e : N (25 + 6 * k) < 0
    · rw [cI_t e, cI_t e, hc _ 5 _ _ _ (by omega), hc _ 6 _ _ _ (by omega)]
    · rw [cI_f e, cI_f e]
theorem r_ps_py {N : Nat → Int32} {T m : Nat} (hw : ∀ i, i < m → ∃ p, p < 6 ∧ N (21 + 6 * i) = nI p) (hm : m ≤ 10) (h2 : ¬ N 2 < 0) : ∀ s, s ≤ m → r_ps N T s = r_py (r_fd N s) T s
  | 0, _ => rfl
  | s + 1, hs => by
    have ih := r_ps_py (T := T) hw hm h2 s (by omega)
    have q0 : ∀ q, q ≠ 5 → q ≠ 6 → (∀ i, i < s → q ≠ 25 + 6 * i) → r_ps N T s q = N q := fun q h5 h6 hi => by rw [ih, r_py_ne h5 h6, r_fd_ne s hi]
    have eh : r_hd (r_ps N T s) s = r_hd N s := r_hd_congr (hw s (by omega)) (fun q h1 h2 => q0 q (by omega) (by omega) (fun i hi => by omega)) (fun j hj => q0 _ (by omega) (by omega) (fun i hi => by omega))
    have ek : r_keeps (r_ps N T s) T s = r_keeps N T s := r_keeps_congr (q0 2 (by decide) (by decide) (fun i hi => by omega)) (fun j hj => q0 _ (by omega) (by omega) (fun i hi => by omega)) (fun q hq => q0 q (by omega) (by omega) (fun i hi => by omega))
    have e25 := q0 (25 + 6 * s) (by omega) (by omega) (fun i hi => by omega)
    have e24 := q0 (24 + 6 * s) (by omega) (by omega) (fun i hi => by omega)
    have e2 := q0 2 (by omega) (by omega) (fun i hi => by omega)
    have f25 : r_fd N s (25 + 6 * s) = N (25 + 6 * s) := r_fd_ne s (fun i hi => by omega)
    have f24 : r_fd N s (24 + 6 * s) = N (24 + 6 * s) := r_fd_ne s (fun i hi => by omega)
    have f2 : r_fd N s 2 = N 2 := r_fd_ne s (fun i hi => by omega)
    have fk : r_keeps (r_fd N s) T s = r_keeps N T s := r_keeps_congr f2 (fun j hj => r_fd_ne s (fun i hi => by omega)) (fun q hq => r_fd_ne s (fun i hi => by omega))
    rw [r_ps, e25, r_pass, ← r_hd, eh, e2, e24, ek]
    by_cases en : N (25 + 6 * s) < 0
    · rw [cI_t en]
      by_cases ef : N 2 ≤ N (24 + 6 * s) ∧ r_hd N s
      · have hf : fl N s := ⟨en, ef⟩
        rw [cI_t ef, r_fd, cI_t hf, r_py, r_py_up (by omega) s (Nat.le_refl s), pk_us, cI_f h2, ih]
      · have hf : ¬ fl N s := fun z => ef z.2
        rw [cI_f ef, r_fd, cI_f hf, r_py, f25, cI_t en, f24, f2, fk, ih]
    · have hf : ¬ fl N s := fun z => en z.1
      rw [cI_f en, r_fd, cI_f hf, r_py, f25, cI_f en, ih]
section CLG
variable {E : mh_E} {h : mh_H} {b : Nat} {p : Prop} {D : tDT} {V : Nat → Nat → Int32} {X : Nat → Option Nat} {N M : Nat → Int32} {m T y lo : Nat} {v w x : Int32} {g : Nat → Int32}
theorem i_dn5 {x : Int32} : (if cI (x < 0) (-1000000005 : Int32) x = -1000000005 then (0 : Int32) else 1) = zB (0 ≤ x) := by
  by_cases e : x < 0
  · rw [cI_t e, if_pos rfl, zB_f (Int32.not_le.mpr e)]
  · have : ¬ x = -1000000005 := fun z => e (by rw [z]; decide)
    rw [cI_f e, if_neg this, zB_t (Int32.not_lt.mp e)]
/-- a STONE of a City, asked -/
theorem d_X6_isFulfilled {i : Nat} (hR : cR p D V X N m T y) (hi : i < m) : mh_M E 0 0 0 yX6_isFulfilled [.ref (b + 10 + i)] (hC h b V X) (fun r h' => r = some (.int (zB (0 ≤ N (25 + 6 * i)))) ∧ h' = hC h b V X) := by
  have := c_X6_isFulfilled (E := E) (hC_s (h := h) (b := b) (V := V) (X := X) (i := i) (by have := hR.1.2.2; omega))
  rw [(hR.2.2.2.2.2.2.1 i hi).2, i_dn5] at this
  exact this
theorem d_X0_holds {i : Nat} (hR : cR p D V X N m T y) (hi : i < m) : mh_M E 2 0 0 yX0_holds [.ref b, .ref (b + 10 + i)] (hC h b V X) (fun r h' => r = some (.int (zB (r_hd N i))) ∧ h' = hC h b V X) :=
  c_X0_holds hR.2.2.2.2.2.1 (hC_s (by have := hR.1.2.2; omega)) (hR.2.2.2.2.2.2.1 i hi).1
/-- a STONE's DONE is written -/
theorem cR.done {k z : Nat} (hR : cR p D V X N m T y) (hk : k < m) (hz : z < 2 ^ 31) : cR p D (va_up V (10 + k) (g6 (V (10 + k) 0) (V (10 + k) 1) (V (10 + k) 2) (V (10 + k) 3) (V (10 + k) 4) (nI z))) X (upd N (25 + 6 * k) (nI z)) m T y := by
  have hS : yS N (upd N (25 + 6 * k) (nI z)) := yS_up yS.rfl' (Or.inr (Or.inr (Or.inr (Or.inr (Or.inr ⟨k, by have := hR.1.2.2; omega, rfl⟩)))))
  have hm := hR.1.2.2
  obtain ⟨⟨a1, a2, a3⟩, ⟨b1, b2⟩, ⟨y1, y2⟩, z1, pp, hp, hs, hl⟩ := hR
  have v0 : va_up V (10 + k) (g6 (V (10 + k) 0) (V (10 + k) 1) (V (10 + k) 2) (V (10 + k) 3) (V (10 + k) 4) (nI z)) 0 = V 0 := va_up_ne _ _ (by omega)
  refine ⟨⟨by rw [v0]; exact a1, (pk_un (by omega)).trans a2, a3⟩, ⟨by rw [v0, pk_un (by omega)]; exact b1, by rw [v0, pk_un (by omega)]; exact b2⟩, ⟨by rw [v0]; exact y1, (pk_un (by omega)).trans y2⟩, by rw [v0, pk_un (by omega)]; exact z1, fun q => by rw [v0, pk_un (by omega), pk_un (by omega)]; exact pp q, hp.congr (fun r h1 h2 => va_up_ne _ _ (by omega)) (fun q h1 h2 => pk_un (by omega)), fun i hi => ?_, hl.congr (va_up_ne _ _ (by omega)) (va_up_ne _ _ (by omega)) (pk_un (by omega)) (fun q hq => pk_un (by omega))⟩
  obtain ⟨s1, s2⟩ := hs i hi
  have s1' := s1.congr (fun j hj => hS.2.2.2.2.2 i j (by omega) hj)
  by_cases e : i = k
  · subst e
    rw [va_up_self]
    refine ⟨s1', ?_⟩
    rw [pk_us, cI_f (nI_pos hz)]
    rfl
  · rw [va_up_ne _ _ (by omega)]
    refine ⟨s1', ?_⟩
    rw [pk_un (by omega)]
    exact s2
theorem c_X0_fulfil (hR : cR p D V X N m T y) (hy : y < 2 ^ 31) : mh_M E 3 0 0 yX0_fulfil [.ref b] (hC h b V X) (fun r h' => r = some (.int (nI (cntN (fl N) m))) ∧ ∃ V', h' = hC h b V' X ∧ cR p D V' X (r_fd N m) m T y) := by
  have hm := hR.1.2.2
  have hN2 := hR.2.2.1.2
  have hiN := hR.iN
  refine m_X0_fulfil [some (.ref b), none, none, none] rfl (Nat.le_of_ble_eq_true rfl) ?_
  simp +decide only [e_push, e_il, e_ll, e_al, e_is, e_ls, e_as, e_asN, e_inc, e_bin, e_un, e_div, e_i2l, e_l2i, e_binL, e_lneg, e_lcmp, e_dup, e_dup2, e_pop, e_if1, e_if2, e_ifnN, e_ifnR, e_sw, e_sw0, e_sw1, e_gi, e_gr, e_pi, e_pz, e_pr, e_ald, e_lald, e_aald, e_tald, e_alen, e_tlen, e_ast, e_last, e_aast, e_newa, e_newl, e_newq, e_new, e_oi, e_cv, e_cvS, e_ci, e_cs, e_pop0, e_popS, e_iret, e_zret, e_cret, e_bret, e_aret, e_aretN, e_vret, e_gs, e_ac, e_mm, e_ma, e_ldcs, e_gcs, e_gfm, e_gsV, e_gsC, e_bln, e_bld, mh_get, mh_set, mh_one, mh_two, Value.category, mh_po, mh_mc, mh_ms, mh_d, hC_0, hC_1, hC_2, hC_3, hC_4, hC_5, hC_6, hC_7, hC_8, hC_9, hC_p2, hC_p3, hC_p4, hC_p5, hC_p7, hC_p8, hC_p9, hC_f3, hC_f4, hC_f5, hC_f6, hC_f7, hC_f8, hC_f9, i_in_0, i_cl_0, i_in_1, i_cl_1, i_in_2, i_cl_2, i_in_3, i_cl_3, i_in_4, i_cl_4, i_in_5, i_cl_5, i_in_6, i_cl_6, i_in_7, i_cl_7, i_in_8, i_cl_8, i_in_9, i_cl_9, i_in_10, i_cl_10, i_in_11, i_cl_11, i_in_12, i_cl_12, i_in_13, i_cl_13, i_in_14, i_cl_14, i_in_15, i_cl_15, i_in_16, i_cl_16, i_in_17, i_cl_17, i_in_18, i_cl_18, i_in_19, i_cl_19, i_in_20, i_cl_20, i_in_21, i_cl_21, i_in_22, i_cl_22, i_in_23, i_cl_23, i_in_24, i_cl_24, i_in_25, i_cl_25, i_in_26, i_cl_26, i_in_27, i_cl_27, i_in_28, i_cl_28, i_in_29, i_cl_29, i_in_30, i_cl_30, i_in_31, i_cl_31, i_in_32, i_cl_32, i_in_33, i_cl_33, q_X0_fulfil_0, false_implies, true_implies, implies_true, not_true_eq_false, not_false_eq_true, true_or, or_true, and_self, and_assoc, Option.some.injEq, Sum.inl.injEq, Sum.inr.injEq, Prod.mk.injEq, Value.int.injEq, Value.ref.injEq, Value.long.injEq, true_and, and_true, exists_and_left, exists_and_right, exists_eq_left, exists_eq_left', List.getElem?_cons_zero, List.getElem?_cons_succ, List.length_cons, List.length_nil, List.set_cons_zero, List.set_cons_succ, Option.toList, List.cons_append, List.nil_append, List.append_nil, Nat.zero_add, Nat.le_refl, Nat.zero_le, beq_self_eq_true, Option.isNone_none]
  refine mh_for m (fun k lv h' => ∃ o V', lv = [some (.ref b), some (.int (nI (cntN (fl N) k))), some (.int (nI k)), o] ∧ h' = hC h b V' X ∧ cR p D V' X (r_fd N k) m T y) ?_ ?_ _ _ ⟨none, V, rfl, rfl, hR⟩
  · rintro k _ _ hk ⟨o, V', rfl, rfl, c⟩ ih
    refine b_X0_fulfil_4 _ _ _ _ _ ?_
    have hge : ¬ nI m ≤ nI k := nI_ge hk (by omega)
    have hge2 : ¬ (10 : Int32) ≤ nI k := nI_ge (b := 10) (by omega) (by omega)
    have hv : vp_in (nI k) 10 := vp_in_nI (by omega) (by decide)
    have hcl : (nI k).toNatClampNeg = k := nI_clamp (by omega)
    have hk10 : k < 10 := by omega
    have f25 : r_fd N k (25 + 6 * k) = N (25 + 6 * k) := r_fd_ne k (fun i hi => by omega)
    have f2 : r_fd N k 2 = N 2 := r_fd_ne k (fun i hi => by omega)
    have f24 : V' (10 + k) 4 = N (24 + 6 * k) := by
      rw [(c.2.2.2.2.2.2.1 k hk).1.eq.2.2.2.2]
      exact r_fd_ne k (fun i hi => by omega)
    have eh : r_hd (r_fd N k) k = r_hd N k := r_hd_congr (hiN.2.2.1 k hk) (fun q h1 h2 => r_fd_ne k (fun i hi => by omega)) (fun j hj => r_fd_ne k (fun i hi => by omega))
    have no : ¬ fl N k → ∀ o, mh_G (x_X0_fulfil E 3 0 0 (fun r h' => r = some (.int (nI (cntN (fl N) m))) ∧ ∃ V', h' = hC h b V' X ∧ cR p D V' X (r_fd N m) m T y)) 4 [some (.ref b), some (.int (nI (cntN (fl N) k))), some (.int (nI k + 1)), o] [] (hC h b V' X) 0 0 := fun e o => ih _ _ ⟨o, V', by rw [cntN_f e, nI_succ k], rfl, by rw [r_fd, cI_f e]; exact c⟩
    simp +decide only [e_push, e_il, e_ll, e_al, e_is, e_ls, e_as, e_asN, e_inc, e_bin, e_un, e_div, e_i2l, e_l2i, e_binL, e_lneg, e_lcmp, e_dup, e_dup2, e_pop, e_if1, e_if2, e_ifnN, e_ifnR, e_sw, e_sw0, e_sw1, e_gi, e_gr, e_pi, e_pz, e_pr, e_ald, e_lald, e_aald, e_tald, e_alen, e_tlen, e_ast, e_last, e_aast, e_newa, e_newl, e_newq, e_new, e_oi, e_cv, e_cvS, e_ci, e_cs, e_pop0, e_popS, e_iret, e_zret, e_cret, e_bret, e_aret, e_aretN, e_vret, e_gs, e_ac, e_mm, e_ma, e_ldcs, e_gcs, e_gfm, e_gsV, e_gsC, e_bln, e_bld, mh_get, mh_set, mh_one, mh_two, Value.category, mh_po, mh_mc, mh_ms, mh_d, hC_0, hC_1, hC_2, hC_3, hC_4, hC_5, hC_6, hC_7, hC_8, hC_9, hC_p2, hC_p3, hC_p4, hC_p5, hC_p7, hC_p8, hC_p9, hC_f3, hC_f4, hC_f5, hC_f6, hC_f7, hC_f8, hC_f9, i_in_0, i_cl_0, i_in_1, i_cl_1, i_in_2, i_cl_2, i_in_3, i_cl_3, i_in_4, i_cl_4, i_in_5, i_cl_5, i_in_6, i_cl_6, i_in_7, i_cl_7, i_in_8, i_cl_8, i_in_9, i_cl_9, i_in_10, i_cl_10, i_in_11, i_cl_11, i_in_12, i_cl_12, i_in_13, i_cl_13, i_in_14, i_cl_14, i_in_15, i_cl_15, i_in_16, i_cl_16, i_in_17, i_cl_17, i_in_18, i_cl_18, i_in_19, i_cl_19, i_in_20, i_cl_20, i_in_21, i_cl_21, i_in_22, i_cl_22, i_in_23, i_cl_23, i_in_24, i_cl_24, i_in_25, i_cl_25, i_in_26, i_cl_26, i_in_27, i_cl_27, i_in_28, i_cl_28, i_in_29, i_cl_29, i_in_30, i_cl_30, i_in_31, i_cl_31, i_in_32, i_cl_32, i_in_33, i_cl_33, q_X0_fulfil_4, c.1.1, hge, hge2, hv, hcl, hC_rf hk10, hC_S hk10, false_implies, true_implies, implies_true, not_true_eq_false, not_false_eq_true, true_or, or_true, and_self, and_assoc, Option.some.injEq, Sum.inl.injEq, Sum.inr.injEq, Prod.mk.injEq, Value.int.injEq, Value.ref.injEq, Value.long.injEq, true_and, and_true, exists_and_left, exists_and_right, exists_eq_left, exists_eq_left', List.getElem?_cons_zero, List.getElem?_cons_succ, List.length_cons, List.length_nil, List.set_cons_zero, List.set_cons_succ, Option.toList, List.cons_append, List.nil_append, List.append_nil, Nat.zero_add, Nat.le_refl, Nat.zero_le, beq_self_eq_true, Option.isNone_none]
    refine ⟨⟨_, rfl⟩, mh_ex (d_X6_isFulfilled c hk) (Nat.le_of_ble_eq_true rfl) (Nat.le_of_ble_eq_true rfl) (Nat.le_of_ble_eq_true rfl) (Nat.le_of_ble_eq_true rfl) ?_⟩
    simp +decide only [e_push, e_il, e_ll, e_al, e_is, e_ls, e_as, e_asN, e_inc, e_bin, e_un, e_div, e_i2l, e_l2i, e_binL, e_lneg, e_lcmp, e_dup, e_dup2, e_pop, e_if1, e_if2, e_ifnN, e_ifnR, e_sw, e_sw0, e_sw1, e_gi, e_gr, e_pi, e_pz, e_pr, e_ald, e_lald, e_aald, e_tald, e_alen, e_tlen, e_ast, e_last, e_aast, e_newa, e_newl, e_newq, e_new, e_oi, e_cv, e_cvS, e_ci, e_cs, e_pop0, e_popS, e_iret, e_zret, e_cret, e_bret, e_aret, e_aretN, e_vret, e_gs, e_ac, e_mm, e_ma, e_ldcs, e_gcs, e_gfm, e_gsV, e_gsC, e_bln, e_bld, mh_get, mh_set, mh_one, mh_two, Value.category, mh_po, mh_mc, mh_ms, mh_d, hC_0, hC_1, hC_2, hC_3, hC_4, hC_5, hC_6, hC_7, hC_8, hC_9, hC_p2, hC_p3, hC_p4, hC_p5, hC_p7, hC_p8, hC_p9, hC_f3, hC_f4, hC_f5, hC_f6, hC_f7, hC_f8, hC_f9, i_in_0, i_cl_0, i_in_1, i_cl_1, i_in_2, i_cl_2, i_in_3, i_cl_3, i_in_4, i_cl_4, i_in_5, i_cl_5, i_in_6, i_cl_6, i_in_7, i_cl_7, i_in_8, i_cl_8, i_in_9, i_cl_9, i_in_10, i_cl_10, i_in_11, i_cl_11, i_in_12, i_cl_12, i_in_13, i_cl_13, i_in_14, i_cl_14, i_in_15, i_cl_15, i_in_16, i_cl_16, i_in_17, i_cl_17, i_in_18, i_cl_18, i_in_19, i_cl_19, i_in_20, i_cl_20, i_in_21, i_cl_21, i_in_22, i_cl_22, i_in_23, i_cl_23, i_in_24, i_cl_24, i_in_25, i_cl_25, i_in_26, i_cl_26, i_in_27, i_cl_27, i_in_28, i_cl_28, i_in_29, i_cl_29, i_in_30, i_cl_30, i_in_31, i_cl_31, i_in_32, i_cl_32, i_in_33, i_cl_33, z0, f25, false_implies, true_implies, implies_true, not_true_eq_false, not_false_eq_true, true_or, or_true, and_self, and_assoc, Option.some.injEq, Sum.inl.injEq, Sum.inr.injEq, Prod.mk.injEq, Value.int.injEq, Value.ref.injEq, Value.long.injEq, true_and, and_true, exists_and_left, exists_and_right, exists_eq_left, exists_eq_left', List.getElem?_cons_zero, List.getElem?_cons_succ, List.length_cons, List.length_nil, List.set_cons_zero, List.set_cons_succ, Option.toList, List.cons_append, List.nil_append, List.append_nil, Nat.zero_add, Nat.le_refl, Nat.zero_le, beq_self_eq_true, Option.isNone_none]
    refine ⟨fun e => ?_, fun e => ?_⟩
    · simp +decide only [e_push, e_il, e_ll, e_al, e_is, e_ls, e_as, e_asN, e_inc, e_bin, e_un, e_div, e_i2l, e_l2i, e_binL, e_lneg, e_lcmp, e_dup, e_dup2, e_pop, e_if1, e_if2, e_ifnN, e_ifnR, e_sw, e_sw0, e_sw1, e_gi, e_gr, e_pi, e_pz, e_pr, e_ald, e_lald, e_aald, e_tald, e_alen, e_tlen, e_ast, e_last, e_aast, e_newa, e_newl, e_newq, e_new, e_oi, e_cv, e_cvS, e_ci, e_cs, e_pop0, e_popS, e_iret, e_zret, e_cret, e_bret, e_aret, e_aretN, e_vret, e_gs, e_ac, e_mm, e_ma, e_ldcs, e_gcs, e_gfm, e_gsV, e_gsC, e_bln, e_bld, mh_get, mh_set, mh_one, mh_two, Value.category, mh_po, mh_mc, mh_ms, mh_d, hC_0, hC_1, hC_2, hC_3, hC_4, hC_5, hC_6, hC_7, hC_8, hC_9, hC_p2, hC_p3, hC_p4, hC_p5, hC_p7, hC_p8, hC_p9, hC_f3, hC_f4, hC_f5, hC_f6, hC_f7, hC_f8, hC_f9, i_in_0, i_cl_0, i_in_1, i_cl_1, i_in_2, i_cl_2, i_in_3, i_cl_3, i_in_4, i_cl_4, i_in_5, i_cl_5, i_in_6, i_cl_6, i_in_7, i_cl_7, i_in_8, i_cl_8, i_in_9, i_cl_9, i_in_10, i_cl_10, i_in_11, i_cl_11, i_in_12, i_cl_12, i_in_13, i_cl_13, i_in_14, i_cl_14, i_in_15, i_cl_15, i_in_16, i_cl_16, i_in_17, i_cl_17, i_in_18, i_cl_18, i_in_19, i_cl_19, i_in_20, i_cl_20, i_in_21, i_cl_21, i_in_22, i_cl_22, i_in_23, i_cl_23, i_in_24, i_cl_24, i_in_25, i_cl_25, i_in_26, i_cl_26, i_in_27, i_cl_27, i_in_28, i_cl_28, i_in_29, i_cl_29, i_in_30, i_cl_30, i_in_31, i_cl_31, i_in_32, i_cl_32, i_in_33, i_cl_33, q_X0_fulfil_62, false_implies, true_implies, implies_true, not_true_eq_false, not_false_eq_true, true_or, or_true, and_self, and_assoc, Option.some.injEq, Sum.inl.injEq, Sum.inr.injEq, Prod.mk.injEq, Value.int.injEq, Value.ref.injEq, Value.long.injEq, true_and, and_true, exists_and_left, exists_and_right, exists_eq_left, exists_eq_left', List.getElem?_cons_zero, List.getElem?_cons_succ, List.length_cons, List.length_nil, List.set_cons_zero, List.set_cons_succ, Option.toList, List.cons_append, List.nil_append, List.append_nil, Nat.zero_add, Nat.le_refl, Nat.zero_le, beq_self_eq_true, Option.isNone_none]
      exact no (fun z => e (Int32.not_le.mpr z.1)) _
    · simp +decide only [e_push, e_il, e_ll, e_al, e_is, e_ls, e_as, e_asN, e_inc, e_bin, e_un, e_div, e_i2l, e_l2i, e_binL, e_lneg, e_lcmp, e_dup, e_dup2, e_pop, e_if1, e_if2, e_ifnN, e_ifnR, e_sw, e_sw0, e_sw1, e_gi, e_gr, e_pi, e_pz, e_pr, e_ald, e_lald, e_aald, e_tald, e_alen, e_tlen, e_ast, e_last, e_aast, e_newa, e_newl, e_newq, e_new, e_oi, e_cv, e_cvS, e_ci, e_cs, e_pop0, e_popS, e_iret, e_zret, e_cret, e_bret, e_aret, e_aretN, e_vret, e_gs, e_ac, e_mm, e_ma, e_ldcs, e_gcs, e_gfm, e_gsV, e_gsC, e_bln, e_bld, mh_get, mh_set, mh_one, mh_two, Value.category, mh_po, mh_mc, mh_ms, mh_d, hC_0, hC_1, hC_2, hC_3, hC_4, hC_5, hC_6, hC_7, hC_8, hC_9, hC_p2, hC_p3, hC_p4, hC_p5, hC_p7, hC_p8, hC_p9, hC_f3, hC_f4, hC_f5, hC_f6, hC_f7, hC_f8, hC_f9, i_in_0, i_cl_0, i_in_1, i_cl_1, i_in_2, i_cl_2, i_in_3, i_cl_3, i_in_4, i_cl_4, i_in_5, i_cl_5, i_in_6, i_cl_6, i_in_7, i_cl_7, i_in_8, i_cl_8, i_in_9, i_cl_9, i_in_10, i_cl_10, i_in_11, i_cl_11, i_in_12, i_cl_12, i_in_13, i_cl_13, i_in_14, i_cl_14, i_in_15, i_cl_15, i_in_16, i_cl_16, i_in_17, i_cl_17, i_in_18, i_cl_18, i_in_19, i_cl_19, i_in_20, i_cl_20, i_in_21, i_cl_21, i_in_22, i_cl_22, i_in_23, i_cl_23, i_in_24, i_cl_24, i_in_25, i_cl_25, i_in_26, i_cl_26, i_in_27, i_cl_27, i_in_28, i_cl_28, i_in_29, i_cl_29, i_in_30, i_cl_30, i_in_31, i_cl_31, i_in_32, i_cl_32, i_in_33, i_cl_33, hC_S hk10, c.2.2.1.1, f24, false_implies, true_implies, implies_true, not_true_eq_false, not_false_eq_true, true_or, or_true, and_self, and_assoc, Option.some.injEq, Sum.inl.injEq, Sum.inr.injEq, Prod.mk.injEq, Value.int.injEq, Value.ref.injEq, Value.long.injEq, true_and, and_true, exists_and_left, exists_and_right, exists_eq_left, exists_eq_left', List.getElem?_cons_zero, List.getElem?_cons_succ, List.length_cons, List.length_nil, List.set_cons_zero, List.set_cons_succ, Option.toList, List.cons_append, List.nil_append, List.append_nil, Nat.zero_add, Nat.le_refl, Nat.zero_le, beq_self_eq_true, Option.isNone_none]
      refine ⟨fun e2 => ?_, fun e2 => ?_⟩
      · simp +decide only [e_push, e_il, e_ll, e_al, e_is, e_ls, e_as, e_asN, e_inc, e_bin, e_un, e_div, e_i2l, e_l2i, e_binL, e_lneg, e_lcmp, e_dup, e_dup2, e_pop, e_if1, e_if2, e_ifnN, e_ifnR, e_sw, e_sw0, e_sw1, e_gi, e_gr, e_pi, e_pz, e_pr, e_ald, e_lald, e_aald, e_tald, e_alen, e_tlen, e_ast, e_last, e_aast, e_newa, e_newl, e_newq, e_new, e_oi, e_cv, e_cvS, e_ci, e_cs, e_pop0, e_popS, e_iret, e_zret, e_cret, e_bret, e_aret, e_aretN, e_vret, e_gs, e_ac, e_mm, e_ma, e_ldcs, e_gcs, e_gfm, e_gsV, e_gsC, e_bln, e_bld, mh_get, mh_set, mh_one, mh_two, Value.category, mh_po, mh_mc, mh_ms, mh_d, hC_0, hC_1, hC_2, hC_3, hC_4, hC_5, hC_6, hC_7, hC_8, hC_9, hC_p2, hC_p3, hC_p4, hC_p5, hC_p7, hC_p8, hC_p9, hC_f3, hC_f4, hC_f5, hC_f6, hC_f7, hC_f8, hC_f9, i_in_0, i_cl_0, i_in_1, i_cl_1, i_in_2, i_cl_2, i_in_3, i_cl_3, i_in_4, i_cl_4, i_in_5, i_cl_5, i_in_6, i_cl_6, i_in_7, i_cl_7, i_in_8, i_cl_8, i_in_9, i_cl_9, i_in_10, i_cl_10, i_in_11, i_cl_11, i_in_12, i_cl_12, i_in_13, i_cl_13, i_in_14, i_cl_14, i_in_15, i_cl_15, i_in_16, i_cl_16, i_in_17, i_cl_17, i_in_18, i_cl_18, i_in_19, i_cl_19, i_in_20, i_cl_20, i_in_21, i_cl_21, i_in_22, i_cl_22, i_in_23, i_cl_23, i_in_24, i_cl_24, i_in_25, i_cl_25, i_in_26, i_cl_26, i_in_27, i_cl_27, i_in_28, i_cl_28, i_in_29, i_cl_29, i_in_30, i_cl_30, i_in_31, i_cl_31, i_in_32, i_cl_32, i_in_33, i_cl_33, q_X0_fulfil_62, false_implies, true_implies, implies_true, not_true_eq_false, not_false_eq_true, true_or, or_true, and_self, and_assoc, Option.some.injEq, Sum.inl.injEq, Sum.inr.injEq, Prod.mk.injEq, Value.int.injEq, Value.ref.injEq, Value.long.injEq, true_and, and_true, exists_and_left, exists_and_right, exists_eq_left, exists_eq_left', List.getElem?_cons_zero, List.getElem?_cons_succ, List.length_cons, List.length_nil, List.set_cons_zero, List.set_cons_succ, Option.toList, List.cons_append, List.nil_append, List.append_nil, Nat.zero_add, Nat.le_refl, Nat.zero_le, beq_self_eq_true, Option.isNone_none]
        exact no (fun z => absurd z.2.1 (by rw [hN2]; exact Int32.not_le.mpr e2)) _
      · refine ⟨⟨_, rfl⟩, mh_ex (d_X0_holds c hk) (Nat.le_of_ble_eq_true rfl) (Nat.le_of_ble_eq_true rfl) (Nat.le_of_ble_eq_true rfl) (Nat.le_of_ble_eq_true rfl) ?_⟩
        simp +decide only [e_push, e_il, e_ll, e_al, e_is, e_ls, e_as, e_asN, e_inc, e_bin, e_un, e_div, e_i2l, e_l2i, e_binL, e_lneg, e_lcmp, e_dup, e_dup2, e_pop, e_if1, e_if2, e_ifnN, e_ifnR, e_sw, e_sw0, e_sw1, e_gi, e_gr, e_pi, e_pz, e_pr, e_ald, e_lald, e_aald, e_tald, e_alen, e_tlen, e_ast, e_last, e_aast, e_newa, e_newl, e_newq, e_new, e_oi, e_cv, e_cvS, e_ci, e_cs, e_pop0, e_popS, e_iret, e_zret, e_cret, e_bret, e_aret, e_aretN, e_vret, e_gs, e_ac, e_mm, e_ma, e_ldcs, e_gcs, e_gfm, e_gsV, e_gsC, e_bln, e_bld, mh_get, mh_set, mh_one, mh_two, Value.category, mh_po, mh_mc, mh_ms, mh_d, hC_0, hC_1, hC_2, hC_3, hC_4, hC_5, hC_6, hC_7, hC_8, hC_9, hC_p2, hC_p3, hC_p4, hC_p5, hC_p7, hC_p8, hC_p9, hC_f3, hC_f4, hC_f5, hC_f6, hC_f7, hC_f8, hC_f9, i_in_0, i_cl_0, i_in_1, i_cl_1, i_in_2, i_cl_2, i_in_3, i_cl_3, i_in_4, i_cl_4, i_in_5, i_cl_5, i_in_6, i_cl_6, i_in_7, i_cl_7, i_in_8, i_cl_8, i_in_9, i_cl_9, i_in_10, i_cl_10, i_in_11, i_cl_11, i_in_12, i_cl_12, i_in_13, i_cl_13, i_in_14, i_cl_14, i_in_15, i_cl_15, i_in_16, i_cl_16, i_in_17, i_cl_17, i_in_18, i_cl_18, i_in_19, i_cl_19, i_in_20, i_cl_20, i_in_21, i_cl_21, i_in_22, i_cl_22, i_in_23, i_cl_23, i_in_24, i_cl_24, i_in_25, i_cl_25, i_in_26, i_cl_26, i_in_27, i_cl_27, i_in_28, i_cl_28, i_in_29, i_cl_29, i_in_30, i_cl_30, i_in_31, i_cl_31, i_in_32, i_cl_32, i_in_33, i_cl_33, z0, eh, false_implies, true_implies, implies_true, not_true_eq_false, not_false_eq_true, true_or, or_true, and_self, and_assoc, Option.some.injEq, Sum.inl.injEq, Sum.inr.injEq, Prod.mk.injEq, Value.int.injEq, Value.ref.injEq, Value.long.injEq, true_and, and_true, exists_and_left, exists_and_right, exists_eq_left, exists_eq_left', List.getElem?_cons_zero, List.getElem?_cons_succ, List.length_cons, List.length_nil, List.set_cons_zero, List.set_cons_succ, Option.toList, List.cons_append, List.nil_append, List.append_nil, Nat.zero_add, Nat.le_refl, Nat.zero_le, beq_self_eq_true, Option.isNone_none]
        refine ⟨fun e3 => ?_, fun e3 => ?_⟩
        · simp +decide only [e_push, e_il, e_ll, e_al, e_is, e_ls, e_as, e_asN, e_inc, e_bin, e_un, e_div, e_i2l, e_l2i, e_binL, e_lneg, e_lcmp, e_dup, e_dup2, e_pop, e_if1, e_if2, e_ifnN, e_ifnR, e_sw, e_sw0, e_sw1, e_gi, e_gr, e_pi, e_pz, e_pr, e_ald, e_lald, e_aald, e_tald, e_alen, e_tlen, e_ast, e_last, e_aast, e_newa, e_newl, e_newq, e_new, e_oi, e_cv, e_cvS, e_ci, e_cs, e_pop0, e_popS, e_iret, e_zret, e_cret, e_bret, e_aret, e_aretN, e_vret, e_gs, e_ac, e_mm, e_ma, e_ldcs, e_gcs, e_gfm, e_gsV, e_gsC, e_bln, e_bld, mh_get, mh_set, mh_one, mh_two, Value.category, mh_po, mh_mc, mh_ms, mh_d, hC_0, hC_1, hC_2, hC_3, hC_4, hC_5, hC_6, hC_7, hC_8, hC_9, hC_p2, hC_p3, hC_p4, hC_p5, hC_p7, hC_p8, hC_p9, hC_f3, hC_f4, hC_f5, hC_f6, hC_f7, hC_f8, hC_f9, i_in_0, i_cl_0, i_in_1, i_cl_1, i_in_2, i_cl_2, i_in_3, i_cl_3, i_in_4, i_cl_4, i_in_5, i_cl_5, i_in_6, i_cl_6, i_in_7, i_cl_7, i_in_8, i_cl_8, i_in_9, i_cl_9, i_in_10, i_cl_10, i_in_11, i_cl_11, i_in_12, i_cl_12, i_in_13, i_cl_13, i_in_14, i_cl_14, i_in_15, i_cl_15, i_in_16, i_cl_16, i_in_17, i_cl_17, i_in_18, i_cl_18, i_in_19, i_cl_19, i_in_20, i_cl_20, i_in_21, i_cl_21, i_in_22, i_cl_22, i_in_23, i_cl_23, i_in_24, i_cl_24, i_in_25, i_cl_25, i_in_26, i_cl_26, i_in_27, i_cl_27, i_in_28, i_cl_28, i_in_29, i_cl_29, i_in_30, i_cl_30, i_in_31, i_cl_31, i_in_32, i_cl_32, i_in_33, i_cl_33, q_X0_fulfil_62, false_implies, true_implies, implies_true, not_true_eq_false, not_false_eq_true, true_or, or_true, and_self, and_assoc, Option.some.injEq, Sum.inl.injEq, Sum.inr.injEq, Prod.mk.injEq, Value.int.injEq, Value.ref.injEq, Value.long.injEq, true_and, and_true, exists_and_left, exists_and_right, exists_eq_left, exists_eq_left', List.getElem?_cons_zero, List.getElem?_cons_succ, List.length_cons, List.length_nil, List.set_cons_zero, List.set_cons_succ, Option.toList, List.cons_append, List.nil_append, List.append_nil, Nat.zero_add, Nat.le_refl, Nat.zero_le, beq_self_eq_true, Option.isNone_none]
          exact no (fun z => e3 z.2.2) _
        · have hf : fl N k := ⟨Int32.not_le.mp (Classical.not_not.mp e), by rw [hN2]; exact Int32.not_lt.mp e2, Classical.not_not.mp e3⟩
          simp +decide only [e_push, e_il, e_ll, e_al, e_is, e_ls, e_as, e_asN, e_inc, e_bin, e_un, e_div, e_i2l, e_l2i, e_binL, e_lneg, e_lcmp, e_dup, e_dup2, e_pop, e_if1, e_if2, e_ifnN, e_ifnR, e_sw, e_sw0, e_sw1, e_gi, e_gr, e_pi, e_pz, e_pr, e_ald, e_lald, e_aald, e_tald, e_alen, e_tlen, e_ast, e_last, e_aast, e_newa, e_newl, e_newq, e_new, e_oi, e_cv, e_cvS, e_ci, e_cs, e_pop0, e_popS, e_iret, e_zret, e_cret, e_bret, e_aret, e_aretN, e_vret, e_gs, e_ac, e_mm, e_ma, e_ldcs, e_gcs, e_gfm, e_gsV, e_gsC, e_bln, e_bld, mh_get, mh_set, mh_one, mh_two, Value.category, mh_po, mh_mc, mh_ms, mh_d, hC_0, hC_1, hC_2, hC_3, hC_4, hC_5, hC_6, hC_7, hC_8, hC_9, hC_p2, hC_p3, hC_p4, hC_p5, hC_p7, hC_p8, hC_p9, hC_f3, hC_f4, hC_f5, hC_f6, hC_f7, hC_f8, hC_f9, i_in_0, i_cl_0, i_in_1, i_cl_1, i_in_2, i_cl_2, i_in_3, i_cl_3, i_in_4, i_cl_4, i_in_5, i_cl_5, i_in_6, i_cl_6, i_in_7, i_cl_7, i_in_8, i_cl_8, i_in_9, i_cl_9, i_in_10, i_cl_10, i_in_11, i_cl_11, i_in_12, i_cl_12, i_in_13, i_cl_13, i_in_14, i_cl_14, i_in_15, i_cl_15, i_in_16, i_cl_16, i_in_17, i_cl_17, i_in_18, i_cl_18, i_in_19, i_cl_19, i_in_20, i_cl_20, i_in_21, i_cl_21, i_in_22, i_cl_22, i_in_23, i_cl_23, i_in_24, i_cl_24, i_in_25, i_cl_25, i_in_26, i_cl_26, i_in_27, i_cl_27, i_in_28, i_cl_28, i_in_29, i_cl_29, i_in_30, i_cl_30, i_in_31, i_cl_31, i_in_32, i_cl_32, i_in_33, i_cl_33, hC_S hk10, c.2.2.1.1, hC_p6 hk10, q_X0_fulfil_62, false_implies, true_implies, implies_true, not_true_eq_false, not_false_eq_true, true_or, or_true, and_self, and_assoc, Option.some.injEq, Sum.inl.injEq, Sum.inr.injEq, Prod.mk.injEq, Value.int.injEq, Value.ref.injEq, Value.long.injEq, true_and, and_true, exists_and_left, exists_and_right, exists_eq_left, exists_eq_left', List.getElem?_cons_zero, List.getElem?_cons_succ, List.length_cons, List.length_nil, List.set_cons_zero, List.set_cons_succ, Option.toList, List.cons_append, List.nil_append, List.append_nil, Nat.zero_add, Nat.le_refl, Nat.zero_le, beq_self_eq_true, Option.isNone_none]
          exact ih _ _ ⟨_, _, by rw [cntN_t hf, nI_succ k, nI_succ], rfl, by rw [r_fd, cI_t hf, hN2]; exact c.done hk hy⟩
  · rintro _ _ ⟨o, V', rfl, rfl, c⟩
    refine b_X0_fulfil_4 _ _ _ _ _ ?_
    simp +decide only [e_push, e_il, e_ll, e_al, e_is, e_ls, e_as, e_asN, e_inc, e_bin, e_un, e_div, e_i2l, e_l2i, e_binL, e_lneg, e_lcmp, e_dup, e_dup2, e_pop, e_if1, e_if2, e_ifnN, e_ifnR, e_sw, e_sw0, e_sw1, e_gi, e_gr, e_pi, e_pz, e_pr, e_ald, e_lald, e_aald, e_tald, e_alen, e_tlen, e_ast, e_last, e_aast, e_newa, e_newl, e_newq, e_new, e_oi, e_cv, e_cvS, e_ci, e_cs, e_pop0, e_popS, e_iret, e_zret, e_cret, e_bret, e_aret, e_aretN, e_vret, e_gs, e_ac, e_mm, e_ma, e_ldcs, e_gcs, e_gfm, e_gsV, e_gsC, e_bln, e_bld, mh_get, mh_set, mh_one, mh_two, Value.category, mh_po, mh_mc, mh_ms, mh_d, hC_0, hC_1, hC_2, hC_3, hC_4, hC_5, hC_6, hC_7, hC_8, hC_9, hC_p2, hC_p3, hC_p4, hC_p5, hC_p7, hC_p8, hC_p9, hC_f3, hC_f4, hC_f5, hC_f6, hC_f7, hC_f8, hC_f9, i_in_0, i_cl_0, i_in_1, i_cl_1, i_in_2, i_cl_2, i_in_3, i_cl_3, i_in_4, i_cl_4, i_in_5, i_cl_5, i_in_6, i_cl_6, i_in_7, i_cl_7, i_in_8, i_cl_8, i_in_9, i_cl_9, i_in_10, i_cl_10, i_in_11, i_cl_11, i_in_12, i_cl_12, i_in_13, i_cl_13, i_in_14, i_cl_14, i_in_15, i_cl_15, i_in_16, i_cl_16, i_in_17, i_cl_17, i_in_18, i_cl_18, i_in_19, i_cl_19, i_in_20, i_cl_20, i_in_21, i_cl_21, i_in_22, i_cl_22, i_in_23, i_cl_23, i_in_24, i_cl_24, i_in_25, i_cl_25, i_in_26, i_cl_26, i_in_27, i_cl_27, i_in_28, i_cl_28, i_in_29, i_cl_29, i_in_30, i_cl_30, i_in_31, i_cl_31, i_in_32, i_cl_32, i_in_33, i_cl_33, q_X0_fulfil_4, c.1.1, Int32.le_refl, q_X0_fulfil_68, false_implies, true_implies, implies_true, not_true_eq_false, not_false_eq_true, true_or, or_true, and_self, and_assoc, Option.some.injEq, Sum.inl.injEq, Sum.inr.injEq, Prod.mk.injEq, Value.int.injEq, Value.ref.injEq, Value.long.injEq, true_and, and_true, exists_and_left, exists_and_right, exists_eq_left, exists_eq_left', List.getElem?_cons_zero, List.getElem?_cons_succ, List.length_cons, List.length_nil, List.set_cons_zero, List.set_cons_succ, Option.toList, List.cons_append, List.nil_append, List.append_nil, Nat.zero_add, Nat.le_refl, Nat.zero_le, beq_self_eq_true, Option.isNone_none]
    exact ⟨V', rfl, c⟩
end CLG
