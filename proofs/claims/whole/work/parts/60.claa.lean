/-! PART 60: the class: small tests, sets of people, the JDK's fill and count -/
theorem i_ltS {v : Int32} {k : Nat} (hk : k + 1 < 2 ^ 31) : v < nI (k + 1) ↔ v ≤ nI k := by
  rw [Int32.lt_iff_toInt_lt, Int32.le_iff_toInt_le, nI_toInt hk, nI_toInt (by omega)]
  omega
section CLA
variable {E : mh_E} {h : mh_H} {v w : Int32}
theorem c_X9_isKind : mh_M E 0 0 0 yX9_isKind [.int v] h (fun r h' => r = some (.int (zB (0 ≤ v ∧ v ≤ 5))) ∧ h' = h) := by
  refine m_X9_isKind [some (.int v)] rfl (Nat.le_of_ble_eq_true rfl) ?_
  simp +decide only [e_push, e_il, e_ll, e_al, e_is, e_ls, e_as, e_asN, e_inc, e_bin, e_un, e_div, e_i2l, e_l2i, e_binL, e_lneg, e_lcmp, e_dup, e_dup2, e_pop, e_if1, e_if2, e_ifnN, e_ifnR, e_sw, e_sw0, e_sw1, e_gi, e_gr, e_pi, e_pz, e_pr, e_ald, e_lald, e_aald, e_tald, e_alen, e_tlen, e_ast, e_last, e_aast, e_newa, e_newl, e_newq, e_new, e_oi, e_cv, e_cvS, e_ci, e_cs, e_pop0, e_popS, e_iret, e_zret, e_cret, e_bret, e_aret, e_aretN, e_vret, e_gs, e_ac, e_mm, e_ma, e_ldcs, e_gcs, e_gfm, e_gsV, e_gsC, e_bln, e_bld, mh_get, mh_set, mh_one, mh_two, Value.category, mh_po, mh_mc, mh_ms, mh_d, q_X9_isKind_15, q_X9_isKind_14, q_X9_isKind_0, false_implies, true_implies, implies_true, not_true_eq_false, not_false_eq_true, true_or, or_true, and_self, and_assoc, Option.some.injEq, Sum.inl.injEq, Sum.inr.injEq, Prod.mk.injEq, Value.int.injEq, Value.ref.injEq, Value.long.injEq, true_and, and_true, exists_and_left, exists_and_right, exists_eq_left, exists_eq_left', List.getElem?_cons_zero, List.getElem?_cons_succ, List.length_cons, List.length_nil, List.set_cons_zero, List.set_cons_succ, Option.toList, List.cons_append, List.nil_append, List.append_nil, Nat.zero_add, Nat.le_refl, Nat.zero_le, beq_self_eq_true, Option.isNone_none]
  refine ⟨fun e => (zB_f (fun z => Int32.not_le.mpr e z.1)).symm, fun e => ⟨fun e2 => (zB_f (fun z => Int32.not_le.mpr ((i_ltS (k := 5) (by decide)).mpr z.2) e2)).symm, fun e2 => (zB_t ⟨Int32.not_lt.mp e, (i_ltS (k := 5) (by decide)).mp (Int32.not_le.mp e2)⟩).symm⟩⟩
theorem c_X9_isOne : mh_M E 0 0 0 yX9_isOne [.int v] h (fun r h' => r = some (.int (zB (0 ≤ v ∧ v ≤ 5))) ∧ h' = h) := by
  refine m_X9_isOne [some (.int v)] rfl (Nat.le_of_ble_eq_true rfl) ?_
  simp +decide only [e_push, e_il, e_ll, e_al, e_is, e_ls, e_as, e_asN, e_inc, e_bin, e_un, e_div, e_i2l, e_l2i, e_binL, e_lneg, e_lcmp, e_dup, e_dup2, e_pop, e_if1, e_if2, e_ifnN, e_ifnR, e_sw, e_sw0, e_sw1, e_gi, e_gr, e_pi, e_pz, e_pr, e_ald, e_lald, e_aald, e_tald, e_alen, e_tlen, e_ast, e_last, e_aast, e_newa, e_newl, e_newq, e_new, e_oi, e_cv, e_cvS, e_ci, e_cs, e_pop0, e_popS, e_iret, e_zret, e_cret, e_bret, e_aret, e_aretN, e_vret, e_gs, e_ac, e_mm, e_ma, e_ldcs, e_gcs, e_gfm, e_gsV, e_gsC, e_bln, e_bld, mh_get, mh_set, mh_one, mh_two, Value.category, mh_po, mh_mc, mh_ms, mh_d, q_X9_isOne_15, q_X9_isOne_14, q_X9_isOne_0, false_implies, true_implies, implies_true, not_true_eq_false, not_false_eq_true, true_or, or_true, and_self, and_assoc, Option.some.injEq, Sum.inl.injEq, Sum.inr.injEq, Prod.mk.injEq, Value.int.injEq, Value.ref.injEq, Value.long.injEq, true_and, and_true, exists_and_left, exists_and_right, exists_eq_left, exists_eq_left', List.getElem?_cons_zero, List.getElem?_cons_succ, List.length_cons, List.length_nil, List.set_cons_zero, List.set_cons_succ, Option.toList, List.cons_append, List.nil_append, List.append_nil, Nat.zero_add, Nat.le_refl, Nat.zero_le, beq_self_eq_true, Option.isNone_none]
  refine ⟨fun e => (zB_f (fun z => Int32.not_le.mpr e z.1)).symm, fun e => ⟨fun e2 => (zB_f (fun z => Int32.not_le.mpr ((i_ltS (k := 5) (by decide)).mpr z.2) e2)).symm, fun e2 => (zB_t ⟨Int32.not_lt.mp e, (i_ltS (k := 5) (by decide)).mp (Int32.not_le.mp e2)⟩).symm⟩⟩
theorem c_X9_isSquare : mh_M E 0 0 0 yX9_isSquare [.int v] h (fun r h' => r = some (.int (zB (0 ≤ v ∧ v ≤ 3))) ∧ h' = h) := by
  refine m_X9_isSquare [some (.int v)] rfl (Nat.le_of_ble_eq_true rfl) ?_
  simp +decide only [e_push, e_il, e_ll, e_al, e_is, e_ls, e_as, e_asN, e_inc, e_bin, e_un, e_div, e_i2l, e_l2i, e_binL, e_lneg, e_lcmp, e_dup, e_dup2, e_pop, e_if1, e_if2, e_ifnN, e_ifnR, e_sw, e_sw0, e_sw1, e_gi, e_gr, e_pi, e_pz, e_pr, e_ald, e_lald, e_aald, e_tald, e_alen, e_tlen, e_ast, e_last, e_aast, e_newa, e_newl, e_newq, e_new, e_oi, e_cv, e_cvS, e_ci, e_cs, e_pop0, e_popS, e_iret, e_zret, e_cret, e_bret, e_aret, e_aretN, e_vret, e_gs, e_ac, e_mm, e_ma, e_ldcs, e_gcs, e_gfm, e_gsV, e_gsC, e_bln, e_bld, mh_get, mh_set, mh_one, mh_two, Value.category, mh_po, mh_mc, mh_ms, mh_d, q_X9_isSquare_14, q_X9_isSquare_13, q_X9_isSquare_0, false_implies, true_implies, implies_true, not_true_eq_false, not_false_eq_true, true_or, or_true, and_self, and_assoc, Option.some.injEq, Sum.inl.injEq, Sum.inr.injEq, Prod.mk.injEq, Value.int.injEq, Value.ref.injEq, Value.long.injEq, true_and, and_true, exists_and_left, exists_and_right, exists_eq_left, exists_eq_left', List.getElem?_cons_zero, List.getElem?_cons_succ, List.length_cons, List.length_nil, List.set_cons_zero, List.set_cons_succ, Option.toList, List.cons_append, List.nil_append, List.append_nil, Nat.zero_add, Nat.le_refl, Nat.zero_le, beq_self_eq_true, Option.isNone_none]
  refine ⟨fun e => (zB_f (fun z => Int32.not_le.mpr e z.1)).symm, fun e => ⟨fun e2 => (zB_f (fun z => Int32.not_le.mpr ((i_ltS (k := 3) (by decide)).mpr z.2) e2)).symm, fun e2 => (zB_t ⟨Int32.not_lt.mp e, (i_ltS (k := 3) (by decide)).mp (Int32.not_le.mp e2)⟩).symm⟩⟩
theorem c_X9_isRank : mh_M E 0 0 0 yX9_isRank [.int v] h (fun r h' => r = some (.int (zB (0 ≤ v ∧ v ≤ 9))) ∧ h' = h) := by
  refine m_X9_isRank [some (.int v)] rfl (Nat.le_of_ble_eq_true rfl) ?_
  simp +decide only [e_push, e_il, e_ll, e_al, e_is, e_ls, e_as, e_asN, e_inc, e_bin, e_un, e_div, e_i2l, e_l2i, e_binL, e_lneg, e_lcmp, e_dup, e_dup2, e_pop, e_if1, e_if2, e_ifnN, e_ifnR, e_sw, e_sw0, e_sw1, e_gi, e_gr, e_pi, e_pz, e_pr, e_ald, e_lald, e_aald, e_tald, e_alen, e_tlen, e_ast, e_last, e_aast, e_newa, e_newl, e_newq, e_new, e_oi, e_cv, e_cvS, e_ci, e_cs, e_pop0, e_popS, e_iret, e_zret, e_cret, e_bret, e_aret, e_aretN, e_vret, e_gs, e_ac, e_mm, e_ma, e_ldcs, e_gcs, e_gfm, e_gsV, e_gsC, e_bln, e_bld, mh_get, mh_set, mh_one, mh_two, Value.category, mh_po, mh_mc, mh_ms, mh_d, q_X9_isRank_15, q_X9_isRank_14, q_X9_isRank_0, false_implies, true_implies, implies_true, not_true_eq_false, not_false_eq_true, true_or, or_true, and_self, and_assoc, Option.some.injEq, Sum.inl.injEq, Sum.inr.injEq, Prod.mk.injEq, Value.int.injEq, Value.ref.injEq, Value.long.injEq, true_and, and_true, exists_and_left, exists_and_right, exists_eq_left, exists_eq_left', List.getElem?_cons_zero, List.getElem?_cons_succ, List.length_cons, List.length_nil, List.set_cons_zero, List.set_cons_succ, Option.toList, List.cons_append, List.nil_append, List.append_nil, Nat.zero_add, Nat.le_refl, Nat.zero_le, beq_self_eq_true, Option.isNone_none]
  refine ⟨fun e => (zB_f (fun z => Int32.not_le.mpr e z.1)).symm, fun e => ⟨fun e2 => (zB_f (fun z => Int32.not_le.mpr ((i_ltS (k := 9) (by decide)).mpr z.2) e2)).symm, fun e2 => (zB_t ⟨Int32.not_lt.mp e, (i_ltS (k := 9) (by decide)).mp (Int32.not_le.mp e2)⟩).symm⟩⟩
theorem c_X9_isYear : mh_M E 0 0 0 yX9_isYear [.int v] h (fun r h' => r = some (.int (zB (0 ≤ v ∧ v ≤ 9999))) ∧ h' = h) := by
  refine m_X9_isYear [some (.int v)] rfl (Nat.le_of_ble_eq_true rfl) ?_
  simp +decide only [e_push, e_il, e_ll, e_al, e_is, e_ls, e_as, e_asN, e_inc, e_bin, e_un, e_div, e_i2l, e_l2i, e_binL, e_lneg, e_lcmp, e_dup, e_dup2, e_pop, e_if1, e_if2, e_ifnN, e_ifnR, e_sw, e_sw0, e_sw1, e_gi, e_gr, e_pi, e_pz, e_pr, e_ald, e_lald, e_aald, e_tald, e_alen, e_tlen, e_ast, e_last, e_aast, e_newa, e_newl, e_newq, e_new, e_oi, e_cv, e_cvS, e_ci, e_cs, e_pop0, e_popS, e_iret, e_zret, e_cret, e_bret, e_aret, e_aretN, e_vret, e_gs, e_ac, e_mm, e_ma, e_ldcs, e_gcs, e_gfm, e_gsV, e_gsC, e_bln, e_bld, mh_get, mh_set, mh_one, mh_two, Value.category, mh_po, mh_mc, mh_ms, mh_d, q_X9_isYear_16, q_X9_isYear_15, q_X9_isYear_0, false_implies, true_implies, implies_true, not_true_eq_false, not_false_eq_true, true_or, or_true, and_self, and_assoc, Option.some.injEq, Sum.inl.injEq, Sum.inr.injEq, Prod.mk.injEq, Value.int.injEq, Value.ref.injEq, Value.long.injEq, true_and, and_true, exists_and_left, exists_and_right, exists_eq_left, exists_eq_left', List.getElem?_cons_zero, List.getElem?_cons_succ, List.length_cons, List.length_nil, List.set_cons_zero, List.set_cons_succ, Option.toList, List.cons_append, List.nil_append, List.append_nil, Nat.zero_add, Nat.le_refl, Nat.zero_le, beq_self_eq_true, Option.isNone_none]
  refine ⟨fun e => (zB_f (fun z => Int32.not_le.mpr e z.1)).symm, fun e => ⟨fun e2 => (zB_f (fun z => Int32.not_le.mpr e2 z.2)).symm, fun e2 => (zB_t ⟨Int32.not_lt.mp e, Int32.not_lt.mp e2⟩).symm⟩⟩
theorem c_X9_isSheet : mh_M E 0 0 0 yX9_isSheet [.int v] h (fun r h' => r = some (.int (zB (0 ≤ v ∧ v ≤ 3))) ∧ h' = h) := by
  refine m_X9_isSheet [some (.int v)] rfl (Nat.le_of_ble_eq_true rfl) ?_
  simp +decide only [e_push, e_il, e_ll, e_al, e_is, e_ls, e_as, e_asN, e_inc, e_bin, e_un, e_div, e_i2l, e_l2i, e_binL, e_lneg, e_lcmp, e_dup, e_dup2, e_pop, e_if1, e_if2, e_ifnN, e_ifnR, e_sw, e_sw0, e_sw1, e_gi, e_gr, e_pi, e_pz, e_pr, e_ald, e_lald, e_aald, e_tald, e_alen, e_tlen, e_ast, e_last, e_aast, e_newa, e_newl, e_newq, e_new, e_oi, e_cv, e_cvS, e_ci, e_cs, e_pop0, e_popS, e_iret, e_zret, e_cret, e_bret, e_aret, e_aretN, e_vret, e_gs, e_ac, e_mm, e_ma, e_ldcs, e_gcs, e_gfm, e_gsV, e_gsC, e_bln, e_bld, mh_get, mh_set, mh_one, mh_two, Value.category, mh_po, mh_mc, mh_ms, mh_d, q_X9_isSheet_14, q_X9_isSheet_13, q_X9_isSheet_0, false_implies, true_implies, implies_true, not_true_eq_false, not_false_eq_true, true_or, or_true, and_self, and_assoc, Option.some.injEq, Sum.inl.injEq, Sum.inr.injEq, Prod.mk.injEq, Value.int.injEq, Value.ref.injEq, Value.long.injEq, true_and, and_true, exists_and_left, exists_and_right, exists_eq_left, exists_eq_left', List.getElem?_cons_zero, List.getElem?_cons_succ, List.length_cons, List.length_nil, List.set_cons_zero, List.set_cons_succ, Option.toList, List.cons_append, List.nil_append, List.append_nil, Nat.zero_add, Nat.le_refl, Nat.zero_le, beq_self_eq_true, Option.isNone_none]
  refine ⟨fun e => (zB_f (fun z => Int32.not_le.mpr e z.1)).symm, fun e => ⟨fun e2 => (zB_f (fun z => Int32.not_le.mpr ((i_ltS (k := 3) (by decide)).mpr z.2) e2)).symm, fun e2 => (zB_t ⟨Int32.not_lt.mp e, (i_ltS (k := 3) (by decide)).mp (Int32.not_le.mp e2)⟩).symm⟩⟩
theorem c_X9_isSlot : mh_M E 0 0 0 yX9_isSlot [.int v] h (fun r h' => r = some (.int (zB (0 ≤ v ∧ v ≤ 4))) ∧ h' = h) := by
  refine m_X9_isSlot [some (.int v)] rfl (Nat.le_of_ble_eq_true rfl) ?_
  simp +decide only [e_push, e_il, e_ll, e_al, e_is, e_ls, e_as, e_asN, e_inc, e_bin, e_un, e_div, e_i2l, e_l2i, e_binL, e_lneg, e_lcmp, e_dup, e_dup2, e_pop, e_if1, e_if2, e_ifnN, e_ifnR, e_sw, e_sw0, e_sw1, e_gi, e_gr, e_pi, e_pz, e_pr, e_ald, e_lald, e_aald, e_tald, e_alen, e_tlen, e_ast, e_last, e_aast, e_newa, e_newl, e_newq, e_new, e_oi, e_cv, e_cvS, e_ci, e_cs, e_pop0, e_popS, e_iret, e_zret, e_cret, e_bret, e_aret, e_aretN, e_vret, e_gs, e_ac, e_mm, e_ma, e_ldcs, e_gcs, e_gfm, e_gsV, e_gsC, e_bln, e_bld, mh_get, mh_set, mh_one, mh_two, Value.category, mh_po, mh_mc, mh_ms, mh_d, q_X9_isSlot_14, q_X9_isSlot_13, q_X9_isSlot_0, false_implies, true_implies, implies_true, not_true_eq_false, not_false_eq_true, true_or, or_true, and_self, and_assoc, Option.some.injEq, Sum.inl.injEq, Sum.inr.injEq, Prod.mk.injEq, Value.int.injEq, Value.ref.injEq, Value.long.injEq, true_and, and_true, exists_and_left, exists_and_right, exists_eq_left, exists_eq_left', List.getElem?_cons_zero, List.getElem?_cons_succ, List.length_cons, List.length_nil, List.set_cons_zero, List.set_cons_succ, Option.toList, List.cons_append, List.nil_append, List.append_nil, Nat.zero_add, Nat.le_refl, Nat.zero_le, beq_self_eq_true, Option.isNone_none]
  refine ⟨fun e => (zB_f (fun z => Int32.not_le.mpr e z.1)).symm, fun e => ⟨fun e2 => (zB_f (fun z => Int32.not_le.mpr ((i_ltS (k := 4) (by decide)).mpr z.2) e2)).symm, fun e2 => (zB_t ⟨Int32.not_lt.mp e, (i_ltS (k := 4) (by decide)).mp (Int32.not_le.mp e2)⟩).symm⟩⟩
/-- the first n places of a row -/
def fiN (f : Nat → Int32) (v : Int32) (n : Nat) : Nat → Int32 := fun j => if j < n then v else f j
theorem fiN_s (f : Nat → Int32) (v : Int32) (n : Nat) : upd (fiN f v n) n v = fiN f v (n + 1) := funext fun j => by
  by_cases e : j = n
  · subst e; simp [fiN, upd]
  · by_cases e2 : j < n
    · simp [fiN, upd, e, e2, show j < n + 1 by omega]
    · simp [fiN, upd, e, e2, show ¬ j < n + 1 by omega]
theorem c_J7_fill {a n : Nat} {f : Nat → Int32} (hn : n < 2 ^ 31) (hf : h.2 a = some (.inl (0, n, .inl f))) : mh_M E 0 0 0 yJ7_fill_53178 [.ref a, .int v] h (fun r h' => r = none ∧ h' = mh_put h a (.inl (0, n, .inl (fiN f v n)))) := by
  refine m_J7_fill_53178 [some (.ref a), some (.int v), none, none] rfl (Nat.le_of_ble_eq_true rfl) ?_
  have hN : Int32.ofNat n = nI n := rfl
  simp +decide only [e_push, e_il, e_ll, e_al, e_is, e_ls, e_as, e_asN, e_inc, e_bin, e_un, e_div, e_i2l, e_l2i, e_binL, e_lneg, e_lcmp, e_dup, e_dup2, e_pop, e_if1, e_if2, e_ifnN, e_ifnR, e_sw, e_sw0, e_sw1, e_gi, e_gr, e_pi, e_pz, e_pr, e_ald, e_lald, e_aald, e_tald, e_alen, e_tlen, e_ast, e_last, e_aast, e_newa, e_newl, e_newq, e_new, e_oi, e_cv, e_cvS, e_ci, e_cs, e_pop0, e_popS, e_iret, e_zret, e_cret, e_bret, e_aret, e_aretN, e_vret, e_gs, e_ac, e_mm, e_ma, e_ldcs, e_gcs, e_gfm, e_gsV, e_gsC, e_bln, e_bld, mh_get, mh_set, mh_one, mh_two, Value.category, mh_po, mh_mc, mh_ms, mh_d, q_J7_fill_53178_0, hf, hN, false_implies, true_implies, implies_true, not_true_eq_false, not_false_eq_true, true_or, or_true, and_self, and_assoc, Option.some.injEq, Sum.inl.injEq, Sum.inr.injEq, Prod.mk.injEq, Value.int.injEq, Value.ref.injEq, Value.long.injEq, true_and, and_true, exists_and_left, exists_and_right, exists_eq_left, exists_eq_left', List.getElem?_cons_zero, List.getElem?_cons_succ, List.length_cons, List.length_nil, List.set_cons_zero, List.set_cons_succ, Option.toList, List.cons_append, List.nil_append, List.append_nil, Nat.zero_add, Nat.le_refl, Nat.zero_le, beq_self_eq_true, Option.isNone_none]
  refine mh_for n (fun k lv h' => lv = [some (.ref a), some (.int v), some (.int (nI k)), some (.int (nI n))] ∧ h' = mh_put h a (.inl (0, n, .inl (fiN f v k)))) ?_ ?_ _ _ ⟨rfl, ?_⟩
  · rintro k _ _ hk ⟨rfl, rfl⟩ ih
    refine b_J7_fill_53178_5 _ _ _ _ _ ?_
    have hge : ¬ nI n ≤ nI k := nI_ge hk (by omega)
    have hv : vp_in (nI k) n := vp_in_nI hk hn
    have hcl : (nI k).toNatClampNeg = k := nI_clamp (by omega)
    simp +decide only [e_push, e_il, e_ll, e_al, e_is, e_ls, e_as, e_asN, e_inc, e_bin, e_un, e_div, e_i2l, e_l2i, e_binL, e_lneg, e_lcmp, e_dup, e_dup2, e_pop, e_if1, e_if2, e_ifnN, e_ifnR, e_sw, e_sw0, e_sw1, e_gi, e_gr, e_pi, e_pz, e_pr, e_ald, e_lald, e_aald, e_tald, e_alen, e_tlen, e_ast, e_last, e_aast, e_newa, e_newl, e_newq, e_new, e_oi, e_cv, e_cvS, e_ci, e_cs, e_pop0, e_popS, e_iret, e_zret, e_cret, e_bret, e_aret, e_aretN, e_vret, e_gs, e_ac, e_mm, e_ma, e_ldcs, e_gcs, e_gfm, e_gsV, e_gsC, e_bln, e_bld, mh_get, mh_set, mh_one, mh_two, Value.category, mh_po, mh_mc, mh_ms, mh_d, q_J7_fill_53178_5, hge, mh_put_self, mh_put_put, hv, hcl, fiN_s, false_implies, true_implies, implies_true, not_true_eq_false, not_false_eq_true, true_or, or_true, and_self, and_assoc, Option.some.injEq, Sum.inl.injEq, Sum.inr.injEq, Prod.mk.injEq, Value.int.injEq, Value.ref.injEq, Value.long.injEq, true_and, and_true, exists_and_left, exists_and_right, exists_eq_left, exists_eq_left', List.getElem?_cons_zero, List.getElem?_cons_succ, List.length_cons, List.length_nil, List.set_cons_zero, List.set_cons_succ, Option.toList, List.cons_append, List.nil_append, List.append_nil, Nat.zero_add, Nat.le_refl, Nat.zero_le, beq_self_eq_true, Option.isNone_none]
    exact ih _ _ ⟨by rw [nI_succ k], rfl⟩
  · rintro _ _ ⟨rfl, rfl⟩
    refine b_J7_fill_53178_5 _ _ _ _ _ ?_
    simp +decide only [e_push, e_il, e_ll, e_al, e_is, e_ls, e_as, e_asN, e_inc, e_bin, e_un, e_div, e_i2l, e_l2i, e_binL, e_lneg, e_lcmp, e_dup, e_dup2, e_pop, e_if1, e_if2, e_ifnN, e_ifnR, e_sw, e_sw0, e_sw1, e_gi, e_gr, e_pi, e_pz, e_pr, e_ald, e_lald, e_aald, e_tald, e_alen, e_tlen, e_ast, e_last, e_aast, e_newa, e_newl, e_newq, e_new, e_oi, e_cv, e_cvS, e_ci, e_cs, e_pop0, e_popS, e_iret, e_zret, e_cret, e_bret, e_aret, e_aretN, e_vret, e_gs, e_ac, e_mm, e_ma, e_ldcs, e_gcs, e_gfm, e_gsV, e_gsC, e_bln, e_bld, mh_get, mh_set, mh_one, mh_two, Value.category, mh_po, mh_mc, mh_ms, mh_d, q_J7_fill_53178_5, Int32.le_refl, false_implies, true_implies, implies_true, not_true_eq_false, not_false_eq_true, true_or, or_true, and_self, and_assoc, Option.some.injEq, Sum.inl.injEq, Sum.inr.injEq, Prod.mk.injEq, Value.int.injEq, Value.ref.injEq, Value.long.injEq, true_and, and_true, exists_and_left, exists_and_right, exists_eq_left, exists_eq_left', List.getElem?_cons_zero, List.getElem?_cons_succ, List.length_cons, List.length_nil, List.set_cons_zero, List.set_cons_succ, Option.toList, List.cons_append, List.nil_append, List.append_nil, Nat.zero_add, Nat.le_refl, Nat.zero_le, beq_self_eq_true, Option.isNone_none]
  · rw [show fiN f v 0 = f from funext fun j => by simp [fiN], mh_put_same hf]
theorem bc_N : ∀ k, k < 1024 → (fun i : Int32 => (fun i : Int32 => (fun i : Int32 => (fun i : Int32 => (fun i : Int32 => i + mh_ush i 16 &&& 63) (i + mh_ush i 8)) (i + mh_ush i 4 &&& 252645135)) ((i &&& 858993459) + (mh_ush i 2 &&& 858993459))) (i - (mh_ush i 1 &&& 1431655765))) (nI k) = nI (pcn k) := by decide +kernel
theorem c_J6_bitCount {k : Nat} (hk : k < 1024) : mh_M E 0 0 0 yJ6_bitCount_0f7a4 [.int (nI k)] h (fun r h' => r = some (.int (nI (pcn k))) ∧ h' = h) := by
  refine m_J6_bitCount_0f7a4 [some (.int (nI k))] rfl (Nat.le_of_ble_eq_true rfl) ?_
  simp +decide only [e_push, e_il, e_ll, e_al, e_is, e_ls, e_as, e_asN, e_inc, e_bin, e_un, e_div, e_i2l, e_l2i, e_binL, e_lneg, e_lcmp, e_dup, e_dup2, e_pop, e_if1, e_if2, e_ifnN, e_ifnR, e_sw, e_sw0, e_sw1, e_gi, e_gr, e_pi, e_pz, e_pr, e_ald, e_lald, e_aald, e_tald, e_alen, e_tlen, e_ast, e_last, e_aast, e_newa, e_newl, e_newq, e_new, e_oi, e_cv, e_cvS, e_ci, e_cs, e_pop0, e_popS, e_iret, e_zret, e_cret, e_bret, e_aret, e_aretN, e_vret, e_gs, e_ac, e_mm, e_ma, e_ldcs, e_gcs, e_gfm, e_gsV, e_gsC, e_bln, e_bld, mh_get, mh_set, mh_one, mh_two, Value.category, mh_po, mh_mc, mh_ms, mh_d, q_J6_bitCount_0f7a4_0, false_implies, true_implies, implies_true, not_true_eq_false, not_false_eq_true, true_or, or_true, and_self, and_assoc, Option.some.injEq, Sum.inl.injEq, Sum.inr.injEq, Prod.mk.injEq, Value.int.injEq, Value.ref.injEq, Value.long.injEq, true_and, and_true, exists_and_left, exists_and_right, exists_eq_left, exists_eq_left', List.getElem?_cons_zero, List.getElem?_cons_succ, List.length_cons, List.length_nil, List.set_cons_zero, List.set_cons_succ, Option.toList, List.cons_append, List.nil_append, List.append_nil, Nat.zero_add, Nat.le_refl, Nat.zero_le, beq_self_eq_true, Option.isNone_none]
  exact bc_N k hk
theorem c_J6_bitB {P : Nat → Prop} {m : Nat} (hm : m ≤ 10) : mh_M E 0 0 0 yJ6_bitCount_0f7a4 [.int (r_bits P m)] h (fun r h' => r = some (.int (nI (cntN P m))) ∧ h' = h) := by
  have h1 : bitsN P m < 1024 := Nat.lt_of_lt_of_le (bitsN_lt P m) (Nat.pow_le_pow_right (n := 2) (by decide) hm)
  have := c_J6_bitCount (E := E) (h := h) h1
  rw [← r_bits_eq P m (by omega), pcn_bits P m hm] at this
  exact this
end CLA
/-! sets of people -/
theorem tbN (P : Nat → Prop) : ∀ k j, (bitsN P k).testBit j = true ↔ j < k ∧ P j
  | 0, j => by simp [bitsN]
  | k + 1, j => by
    have ih := tbN P k j
    have hlt := bitsN_lt P k
    by_cases e : P k
    · rw [bitsN, cI_t e, Nat.add_comm]
      by_cases e1 : j < k
      · rw [Nat.testBit_two_pow_add_gt e1, ih]
        exact ⟨fun z => ⟨by omega, z.2⟩, fun z => ⟨e1, z.2⟩⟩
      · by_cases e2 : j = k
        · subst e2
          rw [Nat.testBit_two_pow_add_eq]
          have : (bitsN P j).testBit j = false := Nat.testBit_lt_two_pow hlt
          rw [this]
          exact ⟨fun _ => ⟨by omega, e⟩, fun _ => rfl⟩
        · have : (2 ^ k + bitsN P k).testBit j = false := Nat.testBit_lt_two_pow (Nat.lt_of_lt_of_le (show 2 ^ k + bitsN P k < 2 ^ (k + 1) by rw [Nat.pow_succ]; omega) (Nat.pow_le_pow_right (by decide) (by omega)))
          rw [this]
          exact ⟨fun z => absurd z (by decide), fun z => by omega⟩
    · rw [bitsN, cI_f e, Nat.add_zero, ih]
      refine ⟨fun z => ⟨by omega, z.2⟩, fun z => ⟨?_, z.2⟩⟩
      by_cases e2 : j = k
      · subst e2; exact absurd z.2 e
      · omega
theorem bs_ext {a : Nat} {P : Nat → Prop} {k : Nat} (h : ∀ j, a.testBit j = true ↔ j < k ∧ P j) : a = bitsN P k := by
  apply Nat.eq_of_testBit_eq
  intro j
  rw [Bool.eq_iff_iff, h j, tbN P k j]
theorem nI_and (a b : Nat) : nI a &&& nI b = nI (a &&& b) := by
  apply Int32.toBitVec_inj.mp
  simp [nI, Int32.toBitVec_and]
theorem nI_or (a b : Nat) : nI a ||| nI b = nI (a ||| b) := by
  apply Int32.toBitVec_inj.mp
  simp [nI, Int32.toBitVec_or]
/-- a set of people -/
noncomputable def bS (P : Nat → Prop) : Int32 := nI (bitsN P 6)
theorem bS_ext {P Q : Nat → Prop} (h : ∀ j, j < 6 → (P j ↔ Q j)) : bS P = bS Q := by
  rw [bS, bS]
  congr 1
  refine bs_ext fun j => ?_
  rw [tbN]
  exact ⟨fun z => ⟨z.1, (h j z.1).mp z.2⟩, fun z => ⟨z.1, (h j z.1).mpr z.2⟩⟩
theorem bS_or {P : Nat → Prop} {p : Nat} (hp : p < 6) : bS P ||| mh_shl 1 (nI p) = bS (fun j => P j ∨ j = p) := by
  rw [bS, bS, mh_shl1 p (by omega), nI_or]
  congr 1
  refine bs_ext fun j => ?_
  rw [Nat.testBit_or, Bool.or_eq_true, tbN, Nat.testBit_two_pow, decide_eq_true_iff]
  exact ⟨fun z => z.elim (fun q => ⟨q.1, Or.inl q.2⟩) (fun q => ⟨by omega, Or.inr q.symm⟩), fun z => z.2.elim (fun q => Or.inl ⟨z.1, q⟩) (fun q => Or.inr q.symm)⟩
theorem bS_msk : ∀ p, p < 6 → mh_shl 1 (nI p) ^^^ (-1) = nI (4294967295 - 2 ^ p) := by decide +kernel
theorem bS_lt (P : Nat → Prop) : bitsN P 6 < 64 := bitsN_lt P 6
theorem bS_clr {P : Nat → Prop} {p : Nat} (hp : p < 6) : bS P &&& (mh_shl 1 (nI p) ^^^ (-1)) = bS (fun j => P j ∧ ¬ j = p) := by
  rw [bS, bS, bS_msk p hp, nI_and]
  congr 1
  refine bs_ext fun j => ?_
  rw [Nat.testBit_and, Bool.and_eq_true, tbN]
  have key : ∀ p, p < 6 → ∀ j, j < 6 → ((4294967295 - 2 ^ p).testBit j = true ↔ ¬ j = p) := by decide +kernel
  exact ⟨fun z => ⟨z.1.1, z.1.2, (key p hp j z.1.1).mp z.2⟩, fun z => ⟨⟨z.1, z.2.1⟩, (key p hp j z.1).mpr z.2.2⟩⟩
theorem bS_and {P Q : Nat → Prop} : bS P &&& bS Q = bS (fun j => P j ∧ Q j) := by
  rw [bS, bS, bS, nI_and]
  congr 1
  refine bs_ext fun j => ?_
  rw [Nat.testBit_and, Bool.and_eq_true, tbN, tbN]
  exact ⟨fun z => ⟨z.1.1, z.1.2, z.2.2⟩, fun z => ⟨⟨z.1, z.2.1⟩, z.1, z.2.2⟩⟩
theorem bS_0 {P : Nat → Prop} : bS P = 0 ↔ ∀ j, j < 6 → ¬ P j := by
  have h1 := bS_lt P
  constructor
  · intro z j hj hP
    have z : nI (bitsN P 6) = nI 0 := z
    have z := (nI_eq (by omega) (by decide)).mp z
    have := (tbN P 6 j).mpr ⟨hj, hP⟩
    rw [z] at this
    simp at this
  · intro z
    have : bitsN P 6 = 0 := by
      have := bs_ext (a := 0) (P := P) (k := 6) (fun j => by simp; exact fun hj => z j hj)
      exact this.symm
    rw [bS, this]
    rfl
theorem bS_one {p : Nat} (hp : p < 6) : mh_shl 1 (nI p) = bS (fun j => j = p) := by
  rw [bS, mh_shl1 p (by omega)]
  congr 1
  refine bs_ext fun j => ?_
  rw [Nat.testBit_two_pow, decide_eq_true_iff]
  exact ⟨fun z => ⟨by omega, z.symm⟩, fun z => z.2.symm⟩
theorem bS_inj {P Q : Nat → Prop} (h : bS P = bS Q) : ∀ j, j < 6 → (P j ↔ Q j) := by
  intro j hj
  have h1 := bS_lt P
  have h2 := bS_lt Q
  have z := (nI_eq (by omega) (by omega)).mp h
  have a := tbN P 6 j
  rw [z, tbN Q 6 j] at a
  exact ⟨fun q => (a.mpr ⟨hj, q⟩).2, fun q => (a.mp ⟨hj, q⟩).2⟩
