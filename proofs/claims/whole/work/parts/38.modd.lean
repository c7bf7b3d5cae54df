/-! PART 38: the model: texts worked out, what a stone keeps -/
def r_two (s a b : Int32) : Int32 := if s = -8 then a * b else if s = -7 then a - b else if s = -6 then a + b else if s = -5 then (if b < a then 1 else 0) else if s = -4 then (if a = b then 1 else 0) else if s = -3 then (if a < b then 1 else 0) else if s = -2 then (if ¬ a = 0 ∧ ¬ b = 0 then 1 else 0) else if s = -1 then (if ¬ a = 0 ∨ ¬ b = 0 then 1 else 0) else if b = 0 then 0 else a / b
def r_v (fa : Nat → Int32) (c : Int32) : Int32 := if c < 10000 then c else fa (c - 10000).toNatClampNeg
/-- how many numbers lie on the stack behind k signs -/
def dl (cs : Nat → Int32) : Nat → Nat
  | 0 => 0
  | k + 1 => if cs k < 0 then (if cs k = -10 then dl cs k else dl cs k - 1) else dl cs k + 1
/-- the stack behind k signs -/
def r_st (S0 cs fa : Nat → Int32) : Nat → Nat → Int32
  | 0 => S0
  | k + 1 => if cs k < 0 then (if cs k = -10 then upd (r_st S0 cs fa k) (dl cs k - 1) (if r_st S0 cs fa k (dl cs k - 1) = 0 then 1 else 0) else upd (r_st S0 cs fa k) (dl cs k - 2) (r_two (cs k) (r_st S0 cs fa k (dl cs k - 2)) (r_st S0 cs fa k (dl cs k - 1)))) else upd (r_st S0 cs fa k) (dl cs k) (r_v fa (cs k))
/-- n signs are a TEXT's -/
def wfT (cs : Nat → Int32) (n : Nat) : Prop := n ≤ 96 ∧ dl cs n = 1 ∧ ∀ k, k < n → dl cs k ≤ 95 ∧ (0 ≤ cs k → cs k < 10000 ∨ ∃ j : Nat, j < 3 ∧ cs k = nI (10000 + j)) ∧ (cs k < 0 → (cs k = -10 → 1 ≤ dl cs k) ∧ (¬ cs k = -10 → 2 ≤ dl cs k))
section MOD
variable {E : mh_E} {h : mh_H} {R : Nat} {A : Nat → Nat → Int32} {L : Nat → Int64} {F : Nat → Int32} {v w x : Int32}
theorem c_X10_two {a b : Int32} : mh_M E 0 0 0 yX10_two [.int v, .int a, .int b] h (fun r h' => r = some (.int (r_two v a b)) ∧ h' = h) := by
  refine m_X10_two [some (.int v), some (.int a), some (.int b)] rfl (Nat.le_of_ble_eq_true rfl) ?_
  simp +decide only [q_X10_two_132, q_X10_two_108, q_X10_two_97, q_X10_two_86, q_X10_two_75, q_X10_two_74, q_X10_two_61, q_X10_two_56, q_X10_two_0, e_push, e_il, e_ll, e_al, e_is, e_ls, e_as, e_asN, e_inc, e_bin, e_un, e_div, e_i2l, e_l2i, e_binL, e_lneg, e_lcmp, e_dup, e_dup2, e_pop, e_if1, e_if2, e_ifnN, e_ifnR, e_sw, e_sw0, e_sw1, e_gi, e_gr, e_pi, e_pz, e_pr, e_ald, e_lald, e_aald, e_tald, e_alen, e_tlen, e_ast, e_last, e_aast, e_newa, e_newl, e_newq, e_new, e_oi, e_cv, e_cvS, e_ci, e_cs, e_pop0, e_popS, e_iret, e_zret, e_cret, e_bret, e_aret, e_aretN, e_vret, e_gs, e_ac, e_mm, e_ma, e_ldcs, e_gcs, e_gfm, e_gsV, e_gsC, e_bln, e_bld, mh_get, mh_set, mh_one, mh_two, Value.category, mh_po, mh_mc, mh_ms, mh_d, false_implies, true_implies, implies_true, not_true_eq_false, not_false_eq_true, true_or, or_true, and_self, and_assoc, Option.some.injEq, Sum.inl.injEq, Sum.inr.injEq, Prod.mk.injEq, Value.int.injEq, Value.ref.injEq, Value.long.injEq, true_and, and_true, exists_and_left, exists_and_right, exists_eq_left, exists_eq_left', List.getElem?_cons_zero, List.getElem?_cons_succ, List.length_cons, List.length_nil, List.set_cons_zero, List.set_cons_succ, Option.toList, List.cons_append, List.nil_append, List.append_nil, Nat.zero_add, Nat.le_refl, Nat.zero_le, beq_self_eq_true, Option.isNone_none]
  (repeat' (first | apply And.intro | intro _)) <;> simp_all [r_two]
theorem i_cd (t k : Nat) : (108 : Int32) + 96 * nI t + nI k = nI (108 + 96 * t + k) := by
  show nI 108 + nI 96 * nI t + nI k = _
  rw [pk_mul, nI_add, nI_add]
theorem i_tx (t : Nat) : (80 : Int32) + 2 * nI t = nI (80 + 2 * t) := by
  show nI 80 + nI 2 * nI t = _
  rw [pk_mul, nI_add]
theorem nI_sub1 {n : Nat} (h : 1 ≤ n) : nI n - 1 = nI (n - 1) := by
  obtain ⟨m, rfl⟩ : ∃ m, n = m + 1 := ⟨n - 1, by omega⟩
  exact nI_pred m
theorem nI_addm1 {n : Nat} (h : 1 ≤ n) : nI n + -1 = nI (n - 1) := by
  obtain ⟨m, rfl⟩ : ∃ m, n = m + 1 := ⟨n - 1, by omega⟩
  exact pk_m1 m
theorem l_X10_worksOut {t n : Nat} {cs : Nat → Int32} (ht : t < 14) (hcs : ∀ k, k < n → A 1 (108 + 96 * t + k) = cs k) (hwf : wfT cs n) {Post : Option Value → mh_H → Prop} (hpo : Post (some (.int (r_st (A 12) cs (A 13) n 0))) (hM h R (va_up A 12 (r_st (A 12) cs (A 13) n)) L F)) : ∀ (j k : Nat) (c y : Int32) (o : Option Value), k + j = n → c = nI (dl cs k) → y = nI k → mh_G (x_X10_worksOut E 1 0 0 Post) 21 [some (.ref R), some (.int (nI t)), some (.int c), some (.int (nI n)), some (.int y), o] [] (hM h R (va_up A 12 (r_st (A 12) cs (A 13) k)) L F) 0 0 := by
  obtain ⟨hn, h1, hk⟩ := hwf
  intro j
  induction j with
  | zero =>
    intro k c y o hkj hc hy
    have hkj : k = n := hkj
    subst hkj hc hy
    refine b_X10_worksOut_21 _ _ _ _ _ ?_
    simp +decide only [q_X10_worksOut_21, e_push, e_il, e_ll, e_al, e_is, e_ls, e_as, e_asN, e_inc, e_bin, e_un, e_div, e_i2l, e_l2i, e_binL, e_lneg, e_lcmp, e_dup, e_dup2, e_pop, e_if1, e_if2, e_ifnN, e_ifnR, e_sw, e_sw0, e_sw1, e_gi, e_gr, e_pi, e_pz, e_pr, e_ald, e_lald, e_aald, e_tald, e_alen, e_tlen, e_ast, e_last, e_aast, e_newa, e_newl, e_newq, e_new, e_oi, e_cv, e_cvS, e_ci, e_cs, e_pop0, e_popS, e_iret, e_zret, e_cret, e_bret, e_aret, e_aretN, e_vret, e_gs, e_ac, e_mm, e_ma, e_ldcs, e_gcs, e_gfm, e_gsV, e_gsC, e_bln, e_bld, mh_get, mh_set, mh_one, mh_two, Value.category, mh_po, mh_mc, mh_ms, mh_d, hM_0, hM_1, hM_2, hM_3, hM_4, hM_5, hM_6, hM_7, hM_8, hM_9, hM_10, hM_11, hM_12, hM_13, hM_14, hM_15, hM_16, hM_17, hM_18, hM_19, hM_20, hM_21, hM_22, hM_p1, hM_p2, hM_p3, hM_p4, hM_p5, hM_p6, hM_p7, hM_p8, hM_p9, hM_p10, hM_p11, hM_p12, hM_p13, hM_p14, hM_p15, hM_p16, hM_p17, hM_p18, hM_p19, hM_p20, hM_p21, hM_p22, hM_f3, hM_f7, hM_f8, hM_f9, hM_f10, hM_f11, hM_f12, hM_f13, hM_f17, hM_f18, hM_f20, hM_f33, i_in_0, i_cl_0, i_in_1, i_cl_1, i_in_2, i_cl_2, i_in_3, i_cl_3, i_in_4, i_cl_4, i_in_5, i_cl_5, i_in_6, i_cl_6, i_in_7, i_cl_7, i_in_8, i_cl_8, i_in_9, i_cl_9, i_in_10, i_cl_10, i_in_11, i_cl_11, i_in_12, i_cl_12, i_in_13, i_cl_13, i_in_14, i_cl_14, i_in_15, i_cl_15, i_in_16, i_cl_16, i_in_17, i_cl_17, i_in_18, i_cl_18, i_in_19, i_cl_19, i_in_20, i_cl_20, i_in_21, i_cl_21, i_in_22, i_cl_22, i_in_23, i_cl_23, i_in_24, i_cl_24, i_in_25, i_cl_25, i_in_26, i_cl_26, i_in_27, i_cl_27, i_in_28, i_cl_28, i_in_29, i_cl_29, i_in_30, i_cl_30, i_in_31, i_cl_31, i_in_32, i_cl_32, i_in_33, i_cl_33, va_up_self, hpo, Int32.le_refl, false_implies, true_implies, implies_true, not_true_eq_false, not_false_eq_true, true_or, or_true, and_self, and_assoc, Option.some.injEq, Sum.inl.injEq, Sum.inr.injEq, Prod.mk.injEq, Value.int.injEq, Value.ref.injEq, Value.long.injEq, true_and, and_true, exists_and_left, exists_and_right, exists_eq_left, exists_eq_left', List.getElem?_cons_zero, List.getElem?_cons_succ, List.length_cons, List.length_nil, List.set_cons_zero, List.set_cons_succ, Option.toList, List.cons_append, List.nil_append, List.append_nil, Nat.zero_add, Nat.le_refl, Nat.zero_le, beq_self_eq_true, Option.isNone_none]
  | succ j ih =>
    intro k c y o hkj hc hy
    have hkn : k < n := by omega
    obtain ⟨hd, hpos, hneg⟩ := hk k hkn
    have hge : ¬ nI n ≤ nI k := nI_ge hkn (by omega)
    subst hc hy
    have hv : vp_in (nI (108 + 96 * t + k)) 1452 := vp_in_nI (by omega) (by decide)
    have hcl : (nI (108 + 96 * t + k)).toNatClampNeg = 108 + 96 * t + k := nI_clamp (by omega)
    have hck := hcs k hkn
    refine b_X10_worksOut_21 _ _ _ _ _ ?_
    simp +decide only [q_X10_worksOut_21, e_push, e_il, e_ll, e_al, e_is, e_ls, e_as, e_asN, e_inc, e_bin, e_un, e_div, e_i2l, e_l2i, e_binL, e_lneg, e_lcmp, e_dup, e_dup2, e_pop, e_if1, e_if2, e_ifnN, e_ifnR, e_sw, e_sw0, e_sw1, e_gi, e_gr, e_pi, e_pz, e_pr, e_ald, e_lald, e_aald, e_tald, e_alen, e_tlen, e_ast, e_last, e_aast, e_newa, e_newl, e_newq, e_new, e_oi, e_cv, e_cvS, e_ci, e_cs, e_pop0, e_popS, e_iret, e_zret, e_cret, e_bret, e_aret, e_aretN, e_vret, e_gs, e_ac, e_mm, e_ma, e_ldcs, e_gcs, e_gfm, e_gsV, e_gsC, e_bln, e_bld, mh_get, mh_set, mh_one, mh_two, Value.category, mh_po, mh_mc, mh_ms, mh_d, hM_0, hM_1, hM_2, hM_3, hM_4, hM_5, hM_6, hM_7, hM_8, hM_9, hM_10, hM_11, hM_12, hM_13, hM_14, hM_15, hM_16, hM_17, hM_18, hM_19, hM_20, hM_21, hM_22, hM_p1, hM_p2, hM_p3, hM_p4, hM_p5, hM_p6, hM_p7, hM_p8, hM_p9, hM_p10, hM_p11, hM_p12, hM_p13, hM_p14, hM_p15, hM_p16, hM_p17, hM_p18, hM_p19, hM_p20, hM_p21, hM_p22, hM_f3, hM_f7, hM_f8, hM_f9, hM_f10, hM_f11, hM_f12, hM_f13, hM_f17, hM_f18, hM_f20, hM_f33, i_cd, va_up_ne, hv, hcl, hck, hge, false_implies, true_implies, implies_true, not_true_eq_false, not_false_eq_true, true_or, or_true, and_self, and_assoc, Option.some.injEq, Sum.inl.injEq, Sum.inr.injEq, Prod.mk.injEq, Value.int.injEq, Value.ref.injEq, Value.long.injEq, true_and, and_true, exists_and_left, exists_and_right, exists_eq_left, exists_eq_left', List.getElem?_cons_zero, List.getElem?_cons_succ, List.length_cons, List.length_nil, List.set_cons_zero, List.set_cons_succ, Option.toList, List.cons_append, List.nil_append, List.append_nil, Nat.zero_add, Nat.le_refl, Nat.zero_le, beq_self_eq_true, Option.isNone_none]
    refine ⟨fun e => ⟨fun e2 => ?_, fun e2 => ?_⟩, fun e => ?_⟩
    · have h2 := (hneg e).2 e2
      rw [nI_addm1 (by omega), nI_sub1 (by omega), show dl cs k - 1 - 1 = dl cs k - 2 by omega]
      refine ⟨vp_in_nI (by omega) (by decide), vp_in_nI (by omega) (by decide), ?_⟩
      rw [nI_clamp (by omega), nI_clamp (by omega)]
      refine mh_ex c_X10_two (Nat.le_of_ble_eq_true rfl) (Nat.le_of_ble_eq_true rfl) (Nat.le_of_ble_eq_true rfl) (Nat.le_of_ble_eq_true rfl) ?_
      have hv2 : vp_in (nI (dl cs k - 2)) 96 := vp_in_nI (by omega) (by decide)
      have hcl2 : (nI (dl cs k - 2)).toNatClampNeg = dl cs k - 2 := nI_clamp (by omega)
      simp +decide only [q_X10_worksOut_149, e_push, e_il, e_ll, e_al, e_is, e_ls, e_as, e_asN, e_inc, e_bin, e_un, e_div, e_i2l, e_l2i, e_binL, e_lneg, e_lcmp, e_dup, e_dup2, e_pop, e_if1, e_if2, e_ifnN, e_ifnR, e_sw, e_sw0, e_sw1, e_gi, e_gr, e_pi, e_pz, e_pr, e_ald, e_lald, e_aald, e_tald, e_alen, e_tlen, e_ast, e_last, e_aast, e_newa, e_newl, e_newq, e_new, e_oi, e_cv, e_cvS, e_ci, e_cs, e_pop0, e_popS, e_iret, e_zret, e_cret, e_bret, e_aret, e_aretN, e_vret, e_gs, e_ac, e_mm, e_ma, e_ldcs, e_gcs, e_gfm, e_gsV, e_gsC, e_bln, e_bld, mh_get, mh_set, mh_one, mh_two, Value.category, mh_po, mh_mc, mh_ms, mh_d, hM_0, hM_1, hM_2, hM_3, hM_4, hM_5, hM_6, hM_7, hM_8, hM_9, hM_10, hM_11, hM_12, hM_13, hM_14, hM_15, hM_16, hM_17, hM_18, hM_19, hM_20, hM_21, hM_22, hM_p1, hM_p2, hM_p3, hM_p4, hM_p5, hM_p6, hM_p7, hM_p8, hM_p9, hM_p10, hM_p11, hM_p12, hM_p13, hM_p14, hM_p15, hM_p16, hM_p17, hM_p18, hM_p19, hM_p20, hM_p21, hM_p22, hM_f3, hM_f7, hM_f8, hM_f9, hM_f10, hM_f11, hM_f12, hM_f13, hM_f17, hM_f18, hM_f20, hM_f33, va_up_self, bx_uu, hv2, hcl2, false_implies, true_implies, implies_true, not_true_eq_false, not_false_eq_true, true_or, or_true, and_self, and_assoc, Option.some.injEq, Sum.inl.injEq, Sum.inr.injEq, Prod.mk.injEq, Value.int.injEq, Value.ref.injEq, Value.long.injEq, true_and, and_true, exists_and_left, exists_and_right, exists_eq_left, exists_eq_left', List.getElem?_cons_zero, List.getElem?_cons_succ, List.length_cons, List.length_nil, List.set_cons_zero, List.set_cons_succ, Option.toList, List.cons_append, List.nil_append, List.append_nil, Nat.zero_add, Nat.le_refl, Nat.zero_le, beq_self_eq_true, Option.isNone_none]
      have := ih (k + 1) (nI (dl cs k - 1)) (nI k + 1) (some (.int (cs k))) (by omega) (by rw [dl, if_pos e, if_neg e2]) (nI_succ k).symm
      rw [r_st, if_pos e, if_neg e2] at this
      exact this
    · have e2 := Classical.not_not.mp e2
      have h2 := (hneg e).1 e2
      have hv2 : vp_in (nI (dl cs k - 1)) 96 := vp_in_nI (by omega) (by decide)
      have hcl2 : (nI (dl cs k - 1)).toNatClampNeg = dl cs k - 1 := nI_clamp (by omega)
      have := ih (k + 1) (nI (dl cs k)) (nI k + 1) (some (.int (cs k))) (by omega) (by rw [dl, if_pos e, if_pos e2]) (nI_succ k).symm
      rw [r_st, if_pos e, if_pos e2] at this
      rw [nI_sub1 h2, hcl2]
      refine ⟨hv2, fun e3 => ?_, fun e3 => ?_⟩
      · rw [if_neg (by rw [va_up_self] at e3; exact e3)] at this
        simp +decide only [q_X10_worksOut_115, q_X10_worksOut_149, e_push, e_il, e_ll, e_al, e_is, e_ls, e_as, e_asN, e_inc, e_bin, e_un, e_div, e_i2l, e_l2i, e_binL, e_lneg, e_lcmp, e_dup, e_dup2, e_pop, e_if1, e_if2, e_ifnN, e_ifnR, e_sw, e_sw0, e_sw1, e_gi, e_gr, e_pi, e_pz, e_pr, e_ald, e_lald, e_aald, e_tald, e_alen, e_tlen, e_ast, e_last, e_aast, e_newa, e_newl, e_newq, e_new, e_oi, e_cv, e_cvS, e_ci, e_cs, e_pop0, e_popS, e_iret, e_zret, e_cret, e_bret, e_aret, e_aretN, e_vret, e_gs, e_ac, e_mm, e_ma, e_ldcs, e_gcs, e_gfm, e_gsV, e_gsC, e_bln, e_bld, mh_get, mh_set, mh_one, mh_two, Value.category, mh_po, mh_mc, mh_ms, mh_d, hM_0, hM_1, hM_2, hM_3, hM_4, hM_5, hM_6, hM_7, hM_8, hM_9, hM_10, hM_11, hM_12, hM_13, hM_14, hM_15, hM_16, hM_17, hM_18, hM_19, hM_20, hM_21, hM_22, hM_p1, hM_p2, hM_p3, hM_p4, hM_p5, hM_p6, hM_p7, hM_p8, hM_p9, hM_p10, hM_p11, hM_p12, hM_p13, hM_p14, hM_p15, hM_p16, hM_p17, hM_p18, hM_p19, hM_p20, hM_p21, hM_p22, hM_f3, hM_f7, hM_f8, hM_f9, hM_f10, hM_f11, hM_f12, hM_f13, hM_f17, hM_f18, hM_f20, hM_f33, va_up_self, bx_uu, hv2, hcl2, false_implies, true_implies, implies_true, not_true_eq_false, not_false_eq_true, true_or, or_true, and_self, and_assoc, Option.some.injEq, Sum.inl.injEq, Sum.inr.injEq, Prod.mk.injEq, Value.int.injEq, Value.ref.injEq, Value.long.injEq, true_and, and_true, exists_and_left, exists_and_right, exists_eq_left, exists_eq_left', List.getElem?_cons_zero, List.getElem?_cons_succ, List.length_cons, List.length_nil, List.set_cons_zero, List.set_cons_succ, Option.toList, List.cons_append, List.nil_append, List.append_nil, Nat.zero_add, Nat.le_refl, Nat.zero_le, beq_self_eq_true, Option.isNone_none]
        exact this
      · rw [if_pos (by rw [va_up_self] at e3; exact Classical.not_not.mp e3)] at this
        simp +decide only [q_X10_worksOut_115, q_X10_worksOut_149, e_push, e_il, e_ll, e_al, e_is, e_ls, e_as, e_asN, e_inc, e_bin, e_un, e_div, e_i2l, e_l2i, e_binL, e_lneg, e_lcmp, e_dup, e_dup2, e_pop, e_if1, e_if2, e_ifnN, e_ifnR, e_sw, e_sw0, e_sw1, e_gi, e_gr, e_pi, e_pz, e_pr, e_ald, e_lald, e_aald, e_tald, e_alen, e_tlen, e_ast, e_last, e_aast, e_newa, e_newl, e_newq, e_new, e_oi, e_cv, e_cvS, e_ci, e_cs, e_pop0, e_popS, e_iret, e_zret, e_cret, e_bret, e_aret, e_aretN, e_vret, e_gs, e_ac, e_mm, e_ma, e_ldcs, e_gcs, e_gfm, e_gsV, e_gsC, e_bln, e_bld, mh_get, mh_set, mh_one, mh_two, Value.category, mh_po, mh_mc, mh_ms, mh_d, hM_0, hM_1, hM_2, hM_3, hM_4, hM_5, hM_6, hM_7, hM_8, hM_9, hM_10, hM_11, hM_12, hM_13, hM_14, hM_15, hM_16, hM_17, hM_18, hM_19, hM_20, hM_21, hM_22, hM_p1, hM_p2, hM_p3, hM_p4, hM_p5, hM_p6, hM_p7, hM_p8, hM_p9, hM_p10, hM_p11, hM_p12, hM_p13, hM_p14, hM_p15, hM_p16, hM_p17, hM_p18, hM_p19, hM_p20, hM_p21, hM_p22, hM_f3, hM_f7, hM_f8, hM_f9, hM_f10, hM_f11, hM_f12, hM_f13, hM_f17, hM_f18, hM_f20, hM_f33, va_up_self, bx_uu, hv2, hcl2, false_implies, true_implies, implies_true, not_true_eq_false, not_false_eq_true, true_or, or_true, and_self, and_assoc, Option.some.injEq, Sum.inl.injEq, Sum.inr.injEq, Prod.mk.injEq, Value.int.injEq, Value.ref.injEq, Value.long.injEq, true_and, and_true, exists_and_left, exists_and_right, exists_eq_left, exists_eq_left', List.getElem?_cons_zero, List.getElem?_cons_succ, List.length_cons, List.length_nil, List.set_cons_zero, List.set_cons_succ, Option.toList, List.cons_append, List.nil_append, List.append_nil, Nat.zero_add, Nat.le_refl, Nat.zero_le, beq_self_eq_true, Option.isNone_none]
        exact this
    · have hv2 : vp_in (nI (dl cs k)) 96 := vp_in_nI (by omega) (by decide)
      have hcl2 : (nI (dl cs k)).toNatClampNeg = dl cs k := nI_clamp (by omega)
      have := ih (k + 1) (nI (dl cs k) + 1) (nI k + 1) (some (.int (cs k))) (by omega) (by rw [dl, if_neg e, nI_succ]) (nI_succ k).symm
      rw [r_st, if_neg e] at this
      refine ⟨fun e2 => ?_, fun e2 => ?_⟩
      · rw [r_v, if_neg (Int32.not_lt.mpr e2)] at this
        refine ⟨?_, ?_⟩
        · rcases hpos (Int32.not_lt.mp e) with q | ⟨i, hi, q⟩
          · exact absurd q (Int32.not_lt.mpr e2)
          · rw [q]
            have : nI (10000 + i) - 10000 = nI i := by
              have := pk_sub (a := 10000 + i) (b := 10000) (by omega)
              rw [show 10000 + i - 10000 = i by omega] at this
              exact this
            rw [this]
            exact vp_in_nI (by omega) (by decide)
        · simp +decide only [q_X10_worksOut_78, q_X10_worksOut_149, e_push, e_il, e_ll, e_al, e_is, e_ls, e_as, e_asN, e_inc, e_bin, e_un, e_div, e_i2l, e_l2i, e_binL, e_lneg, e_lcmp, e_dup, e_dup2, e_pop, e_if1, e_if2, e_ifnN, e_ifnR, e_sw, e_sw0, e_sw1, e_gi, e_gr, e_pi, e_pz, e_pr, e_ald, e_lald, e_aald, e_tald, e_alen, e_tlen, e_ast, e_last, e_aast, e_newa, e_newl, e_newq, e_new, e_oi, e_cv, e_cvS, e_ci, e_cs, e_pop0, e_popS, e_iret, e_zret, e_cret, e_bret, e_aret, e_aretN, e_vret, e_gs, e_ac, e_mm, e_ma, e_ldcs, e_gcs, e_gfm, e_gsV, e_gsC, e_bln, e_bld, mh_get, mh_set, mh_one, mh_two, Value.category, mh_po, mh_mc, mh_ms, mh_d, hM_0, hM_1, hM_2, hM_3, hM_4, hM_5, hM_6, hM_7, hM_8, hM_9, hM_10, hM_11, hM_12, hM_13, hM_14, hM_15, hM_16, hM_17, hM_18, hM_19, hM_20, hM_21, hM_22, hM_p1, hM_p2, hM_p3, hM_p4, hM_p5, hM_p6, hM_p7, hM_p8, hM_p9, hM_p10, hM_p11, hM_p12, hM_p13, hM_p14, hM_p15, hM_p16, hM_p17, hM_p18, hM_p19, hM_p20, hM_p21, hM_p22, hM_f3, hM_f7, hM_f8, hM_f9, hM_f10, hM_f11, hM_f12, hM_f13, hM_f17, hM_f18, hM_f20, hM_f33, va_up_self, bx_uu, hv2, hcl2, false_implies, true_implies, implies_true, not_true_eq_false, not_false_eq_true, true_or, or_true, and_self, and_assoc, Option.some.injEq, Sum.inl.injEq, Sum.inr.injEq, Prod.mk.injEq, Value.int.injEq, Value.ref.injEq, Value.long.injEq, true_and, and_true, exists_and_left, exists_and_right, exists_eq_left, exists_eq_left', List.getElem?_cons_zero, List.getElem?_cons_succ, List.length_cons, List.length_nil, List.set_cons_zero, List.set_cons_succ, Option.toList, List.cons_append, List.nil_append, List.append_nil, Nat.zero_add, Nat.le_refl, Nat.zero_le, beq_self_eq_true, Option.isNone_none]
          exact this
      · rw [r_v, if_pos (Int32.not_le.mp e2)] at this
        simp +decide only [q_X10_worksOut_78, q_X10_worksOut_149, e_push, e_il, e_ll, e_al, e_is, e_ls, e_as, e_asN, e_inc, e_bin, e_un, e_div, e_i2l, e_l2i, e_binL, e_lneg, e_lcmp, e_dup, e_dup2, e_pop, e_if1, e_if2, e_ifnN, e_ifnR, e_sw, e_sw0, e_sw1, e_gi, e_gr, e_pi, e_pz, e_pr, e_ald, e_lald, e_aald, e_tald, e_alen, e_tlen, e_ast, e_last, e_aast, e_newa, e_newl, e_newq, e_new, e_oi, e_cv, e_cvS, e_ci, e_cs, e_pop0, e_popS, e_iret, e_zret, e_cret, e_bret, e_aret, e_aretN, e_vret, e_gs, e_ac, e_mm, e_ma, e_ldcs, e_gcs, e_gfm, e_gsV, e_gsC, e_bln, e_bld, mh_get, mh_set, mh_one, mh_two, Value.category, mh_po, mh_mc, mh_ms, mh_d, hM_0, hM_1, hM_2, hM_3, hM_4, hM_5, hM_6, hM_7, hM_8, hM_9, hM_10, hM_11, hM_12, hM_13, hM_14, hM_15, hM_16, hM_17, hM_18, hM_19, hM_20, hM_21, hM_22, hM_p1, hM_p2, hM_p3, hM_p4, hM_p5, hM_p6, hM_p7, hM_p8, hM_p9, hM_p10, hM_p11, hM_p12, hM_p13, hM_p14, hM_p15, hM_p16, hM_p17, hM_p18, hM_p19, hM_p20, hM_p21, hM_p22, hM_f3, hM_f7, hM_f8, hM_f9, hM_f10, hM_f11, hM_f12, hM_f13, hM_f17, hM_f18, hM_f20, hM_f33, va_up_self, bx_uu, hv2, hcl2, false_implies, true_implies, implies_true, not_true_eq_false, not_false_eq_true, true_or, or_true, and_self, and_assoc, Option.some.injEq, Sum.inl.injEq, Sum.inr.injEq, Prod.mk.injEq, Value.int.injEq, Value.ref.injEq, Value.long.injEq, true_and, and_true, exists_and_left, exists_and_right, exists_eq_left, exists_eq_left', List.getElem?_cons_zero, List.getElem?_cons_succ, List.length_cons, List.length_nil, List.set_cons_zero, List.set_cons_succ, Option.toList, List.cons_append, List.nil_append, List.append_nil, Nat.zero_add, Nat.le_refl, Nat.zero_le, beq_self_eq_true, Option.isNone_none]
        exact this
theorem i_md {key n : Nat} (hk : key < 3) (hn : n < 1000) : mh_rem (nI (1000 * key + n)) 1000 = nI n ∧ nI (1000 * key + n) / 1000 = nI key := by
  have h1 := pk_rem (a := 1000 * key + n) (d := 1000) (by omega) (by decide) (by decide)
  have h2 := pk_div (a := 1000 * key + n) (d := 1000) (by omega) (by decide) (by decide)
  refine ⟨?_, ?_⟩
  · show nI (1000 * key + n) - nI (1000 * key + n) / nI 1000 * nI 1000 = nI n
    rw [h1]
    congr 1
    omega
  · show nI (1000 * key + n) / nI 1000 = nI key
    rw [h2]
    congr 1
    omega
theorem c_X10_worksOut {t n key : Nat} {cs : Nat → Int32} (ht : t < 14) (hkey : key < 3) (hT : A 1 (80 + 2 * t) = nI (1000 * key + n)) (hcs : ∀ k, k < n → A 1 (108 + 96 * t + k) = cs k) (hwf : wfT cs n) : mh_M E 1 0 0 yX10_worksOut [.ref R, .int (nI t)] (hM h R A L F) (fun r h' => r = some (.int (r_st (A 12) cs (A 13) n 0)) ∧ h' = hM h R (va_up A 12 (r_st (A 12) cs (A 13) n)) L F) := by
  refine m_X10_worksOut [some (.ref R), some (.int (nI t)), none, none, none, none] rfl (Nat.le_of_ble_eq_true rfl) ?_
  have hv : vp_in (nI (80 + 2 * t)) 1452 := vp_in_nI (by omega) (by decide)
  have hcl : (nI (80 + 2 * t)).toNatClampNeg = 80 + 2 * t := nI_clamp (by omega)
  have hn : n ≤ 96 := hwf.1
  simp +decide only [q_X10_worksOut_0, e_push, e_il, e_ll, e_al, e_is, e_ls, e_as, e_asN, e_inc, e_bin, e_un, e_div, e_i2l, e_l2i, e_binL, e_lneg, e_lcmp, e_dup, e_dup2, e_pop, e_if1, e_if2, e_ifnN, e_ifnR, e_sw, e_sw0, e_sw1, e_gi, e_gr, e_pi, e_pz, e_pr, e_ald, e_lald, e_aald, e_tald, e_alen, e_tlen, e_ast, e_last, e_aast, e_newa, e_newl, e_newq, e_new, e_oi, e_cv, e_cvS, e_ci, e_cs, e_pop0, e_popS, e_iret, e_zret, e_cret, e_bret, e_aret, e_aretN, e_vret, e_gs, e_ac, e_mm, e_ma, e_ldcs, e_gcs, e_gfm, e_gsV, e_gsC, e_bln, e_bld, mh_get, mh_set, mh_one, mh_two, Value.category, mh_po, mh_mc, mh_ms, mh_d, hM_0, hM_1, hM_2, hM_3, hM_4, hM_5, hM_6, hM_7, hM_8, hM_9, hM_10, hM_11, hM_12, hM_13, hM_14, hM_15, hM_16, hM_17, hM_18, hM_19, hM_20, hM_21, hM_22, hM_p1, hM_p2, hM_p3, hM_p4, hM_p5, hM_p6, hM_p7, hM_p8, hM_p9, hM_p10, hM_p11, hM_p12, hM_p13, hM_p14, hM_p15, hM_p16, hM_p17, hM_p18, hM_p19, hM_p20, hM_p21, hM_p22, hM_f3, hM_f7, hM_f8, hM_f9, hM_f10, hM_f11, hM_f12, hM_f13, hM_f17, hM_f18, hM_f20, hM_f33, i_tx, hv, hcl, hT, (i_md hkey (show n < 1000 by omega)).1, false_implies, true_implies, implies_true, not_true_eq_false, not_false_eq_true, true_or, or_true, and_self, and_assoc, Option.some.injEq, Sum.inl.injEq, Sum.inr.injEq, Prod.mk.injEq, Value.int.injEq, Value.ref.injEq, Value.long.injEq, true_and, and_true, exists_and_left, exists_and_right, exists_eq_left, exists_eq_left', List.getElem?_cons_zero, List.getElem?_cons_succ, List.length_cons, List.length_nil, List.set_cons_zero, List.set_cons_succ, Option.toList, List.cons_append, List.nil_append, List.append_nil, Nat.zero_add, Nat.le_refl, Nat.zero_le, beq_self_eq_true, Option.isNone_none]
  have := l_X10_worksOut (E := E) (h := h) (R := R) (A := A) (L := L) (F := F) ht hcs hwf (Post := fun r h' => r = some (.int (r_st (A 12) cs (A 13) n 0)) ∧ h' = hM h R (va_up A 12 (r_st (A 12) cs (A 13) n)) L F) ⟨rfl, rfl⟩ n 0 0 0 none (by omega) rfl rfl
  rw [show va_up A 12 (r_st (A 12) cs (A 13) 0) = A from funext fun q => by by_cases e : q = 12 <;> simp [va_up, e, r_st]] at this
  exact this
/-- the TEXT that counts, of the first k -/
noncomputable def r_cnt (N : Nat → Int32) (key : Int32) : Nat → Int32
  | 0 => -1
  | k + 1 => cI (N (80 + 2 * k) / 1000 = key) (nI k) (r_cnt N key k)
theorem l_X10_counts {Post : Option Value → mh_H → Prop} : ∀ (k : Nat) (c : Int32), k ≤ 14 → c = nI k - 1 → Post (some (.int (r_cnt (A 1) v k))) (hM h R A L F) → mh_G (x_X10_counts E 0 0 0 Post) 10 [some (.ref R), some (.int v), some (.int c)] [] (hM h R A L F) 0 0 := by
  intro k
  induction k with
  | zero =>
    intro c hk hc hpo
    subst hc
    refine b_X10_counts_10 _ _ _ _ _ ?_
    have hlt : nI 0 - 1 < 0 := by decide
    simp +decide only [q_X10_counts_10, e_push, e_il, e_ll, e_al, e_is, e_ls, e_as, e_asN, e_inc, e_bin, e_un, e_div, e_i2l, e_l2i, e_binL, e_lneg, e_lcmp, e_dup, e_dup2, e_pop, e_if1, e_if2, e_ifnN, e_ifnR, e_sw, e_sw0, e_sw1, e_gi, e_gr, e_pi, e_pz, e_pr, e_ald, e_lald, e_aald, e_tald, e_alen, e_tlen, e_ast, e_last, e_aast, e_newa, e_newl, e_newq, e_new, e_oi, e_cv, e_cvS, e_ci, e_cs, e_pop0, e_popS, e_iret, e_zret, e_cret, e_bret, e_aret, e_aretN, e_vret, e_gs, e_ac, e_mm, e_ma, e_ldcs, e_gcs, e_gfm, e_gsV, e_gsC, e_bln, e_bld, mh_get, mh_set, mh_one, mh_two, Value.category, mh_po, mh_mc, mh_ms, mh_d, hlt, hpo, false_implies, true_implies, implies_true, not_true_eq_false, not_false_eq_true, true_or, or_true, and_self, and_assoc, Option.some.injEq, Sum.inl.injEq, Sum.inr.injEq, Prod.mk.injEq, Value.int.injEq, Value.ref.injEq, Value.long.injEq, true_and, and_true, exists_and_left, exists_and_right, exists_eq_left, exists_eq_left', List.getElem?_cons_zero, List.getElem?_cons_succ, List.length_cons, List.length_nil, List.set_cons_zero, List.set_cons_succ, Option.toList, List.cons_append, List.nil_append, List.append_nil, Nat.zero_add, Nat.le_refl, Nat.zero_le, beq_self_eq_true, Option.isNone_none]
    exact hpo
  | succ k ih =>
    intro c hk hc hpo
    rw [nI_pred] at hc
    subst hc
    have hlt : ¬ nI k < 0 := nI_pos (by omega)
    have hv : vp_in (nI (80 + 2 * k)) 1452 := vp_in_nI (by omega) (by decide)
    have hcl : (nI (80 + 2 * k)).toNatClampNeg = 80 + 2 * k := nI_clamp (by omega)
    refine b_X10_counts_10 _ _ _ _ _ ?_
    simp +decide only [q_X10_counts_10, e_push, e_il, e_ll, e_al, e_is, e_ls, e_as, e_asN, e_inc, e_bin, e_un, e_div, e_i2l, e_l2i, e_binL, e_lneg, e_lcmp, e_dup, e_dup2, e_pop, e_if1, e_if2, e_ifnN, e_ifnR, e_sw, e_sw0, e_sw1, e_gi, e_gr, e_pi, e_pz, e_pr, e_ald, e_lald, e_aald, e_tald, e_alen, e_tlen, e_ast, e_last, e_aast, e_newa, e_newl, e_newq, e_new, e_oi, e_cv, e_cvS, e_ci, e_cs, e_pop0, e_popS, e_iret, e_zret, e_cret, e_bret, e_aret, e_aretN, e_vret, e_gs, e_ac, e_mm, e_ma, e_ldcs, e_gcs, e_gfm, e_gsV, e_gsC, e_bln, e_bld, mh_get, mh_set, mh_one, mh_two, Value.category, mh_po, mh_mc, mh_ms, mh_d, hM_0, hM_1, hM_2, hM_3, hM_4, hM_5, hM_6, hM_7, hM_8, hM_9, hM_10, hM_11, hM_12, hM_13, hM_14, hM_15, hM_16, hM_17, hM_18, hM_19, hM_20, hM_21, hM_22, hM_p1, hM_p2, hM_p3, hM_p4, hM_p5, hM_p6, hM_p7, hM_p8, hM_p9, hM_p10, hM_p11, hM_p12, hM_p13, hM_p14, hM_p15, hM_p16, hM_p17, hM_p18, hM_p19, hM_p20, hM_p21, hM_p22, hM_f3, hM_f7, hM_f8, hM_f9, hM_f10, hM_f11, hM_f12, hM_f13, hM_f17, hM_f18, hM_f20, hM_f33, i_tx, hv, hcl, hlt, false_implies, true_implies, implies_true, not_true_eq_false, not_false_eq_true, true_or, or_true, and_self, and_assoc, Option.some.injEq, Sum.inl.injEq, Sum.inr.injEq, Prod.mk.injEq, Value.int.injEq, Value.ref.injEq, Value.long.injEq, true_and, and_true, exists_and_left, exists_and_right, exists_eq_left, exists_eq_left', List.getElem?_cons_zero, List.getElem?_cons_succ, List.length_cons, List.length_nil, List.set_cons_zero, List.set_cons_succ, Option.toList, List.cons_append, List.nil_append, List.append_nil, Nat.zero_add, Nat.le_refl, Nat.zero_le, beq_self_eq_true, Option.isNone_none]
    refine ⟨fun e => ?_, fun e => ?_⟩
    · rw [r_cnt, cI_f e] at hpo
      exact ih _ (by omega) (Int32.sub_eq_add_neg ..).symm hpo
    · rw [r_cnt, cI_t (Classical.not_not.mp e)] at hpo
      exact hpo
theorem c_X10_counts {T : Nat} (hT : T ≤ 14) (h7 : A 1 7 = nI T) : mh_M E 0 0 0 yX10_counts [.ref R, .int v] (hM h R A L F) (fun r h' => r = some (.int (r_cnt (A 1) v T)) ∧ h' = hM h R A L F) := by
  refine m_X10_counts [some (.ref R), some (.int v), none] rfl (Nat.le_of_ble_eq_true rfl) ?_
  simp +decide only [q_X10_counts_0, e_push, e_il, e_ll, e_al, e_is, e_ls, e_as, e_asN, e_inc, e_bin, e_un, e_div, e_i2l, e_l2i, e_binL, e_lneg, e_lcmp, e_dup, e_dup2, e_pop, e_if1, e_if2, e_ifnN, e_ifnR, e_sw, e_sw0, e_sw1, e_gi, e_gr, e_pi, e_pz, e_pr, e_ald, e_lald, e_aald, e_tald, e_alen, e_tlen, e_ast, e_last, e_aast, e_newa, e_newl, e_newq, e_new, e_oi, e_cv, e_cvS, e_ci, e_cs, e_pop0, e_popS, e_iret, e_zret, e_cret, e_bret, e_aret, e_aretN, e_vret, e_gs, e_ac, e_mm, e_ma, e_ldcs, e_gcs, e_gfm, e_gsV, e_gsC, e_bln, e_bld, mh_get, mh_set, mh_one, mh_two, Value.category, mh_po, mh_mc, mh_ms, mh_d, hM_0, hM_1, hM_2, hM_3, hM_4, hM_5, hM_6, hM_7, hM_8, hM_9, hM_10, hM_11, hM_12, hM_13, hM_14, hM_15, hM_16, hM_17, hM_18, hM_19, hM_20, hM_21, hM_22, hM_p1, hM_p2, hM_p3, hM_p4, hM_p5, hM_p6, hM_p7, hM_p8, hM_p9, hM_p10, hM_p11, hM_p12, hM_p13, hM_p14, hM_p15, hM_p16, hM_p17, hM_p18, hM_p19, hM_p20, hM_p21, hM_p22, hM_f3, hM_f7, hM_f8, hM_f9, hM_f10, hM_f11, hM_f12, hM_f13, hM_f17, hM_f18, hM_f20, hM_f33, i_in_0, i_cl_0, i_in_1, i_cl_1, i_in_2, i_cl_2, i_in_3, i_cl_3, i_in_4, i_cl_4, i_in_5, i_cl_5, i_in_6, i_cl_6, i_in_7, i_cl_7, i_in_8, i_cl_8, i_in_9, i_cl_9, i_in_10, i_cl_10, i_in_11, i_cl_11, i_in_12, i_cl_12, i_in_13, i_cl_13, i_in_14, i_cl_14, i_in_15, i_cl_15, i_in_16, i_cl_16, i_in_17, i_cl_17, i_in_18, i_cl_18, i_in_19, i_cl_19, i_in_20, i_cl_20, i_in_21, i_cl_21, i_in_22, i_cl_22, i_in_23, i_cl_23, i_in_24, i_cl_24, i_in_25, i_cl_25, i_in_26, i_cl_26, i_in_27, i_cl_27, i_in_28, i_cl_28, i_in_29, i_cl_29, i_in_30, i_cl_30, i_in_31, i_cl_31, i_in_32, i_cl_32, i_in_33, i_cl_33, h7, false_implies, true_implies, implies_true, not_true_eq_false, not_false_eq_true, true_or, or_true, and_self, and_assoc, Option.some.injEq, Sum.inl.injEq, Sum.inr.injEq, Prod.mk.injEq, Value.int.injEq, Value.ref.injEq, Value.long.injEq, true_and, and_true, exists_and_left, exists_and_right, exists_eq_left, exists_eq_left', List.getElem?_cons_zero, List.getElem?_cons_succ, List.length_cons, List.length_nil, List.set_cons_zero, List.set_cons_succ, Option.toList, List.cons_append, List.nil_append, List.append_nil, Nat.zero_add, Nat.le_refl, Nat.zero_le, beq_self_eq_true, Option.isNone_none]
  exact l_X10_counts T _ hT rfl ⟨rfl, rfl⟩
end MOD
