/-! PART 98.tphj: constructors: a City -/
def V0 : Nat → Nat → Int32 := fun i => match i with
  | 0 => fun j => if j = 4 then 60 else if j = 5 then 40 else if j = 9 then 1 else 0
  | 4 => upd (fun _ => 0) 0 63
  | 5 => upd (fun _ => 0) 0 63
  | 9 => fiN (fun _ => 0) (-1000000005) 3
  | i => if 10 ≤ i then st0 else fun _ => 0
def X0 : Nat → Option Nat := fun _ => none
/-- a City with i Stones in its row -/
def kCi (b i j : Nat) : Option mh_C := if j = 6 then some (.inl (6, 10, .inr (.inr (.inr (.inr (fun q => if q < i then some (b + 10 + q) else none)))))) else kC b V0 X0 j
section INJ
variable {E : mh_E} {H : mh_H} {b : Nat}
theorem kCi_s {i j : Nat} (hi : i < 10) (hj : j < 10 + i + 1) {f : Nat → Option Nat} (hf : f = va_up (fun q => if q < i then some (b + 10 + q) else none) i (some (b + (10 + i)))) : va_up (va_up (va_up (kCi b i) (10 + i) (some (.inr (.inl (6, [.int 0, .int 0, .int 0, .int 0, .int 0, .int 0]))))) (10 + i) (some (k_St st0))) 6 (some (.inl (6, 10, .inr (.inr (.inr (.inr f)))))) j = kCi b (i + 1) j := by
  by_cases e6 : j = 6
  · subst e6
    have hfe : va_up (fun q => if q < i then some (b + 10 + q) else none) i (some (b + (10 + i))) = (fun q => if q < i + 1 then some (b + 10 + q) else none) := funext fun q => by
      by_cases eq : q = i
      · subst eq; rw [va_up_self, if_pos (by omega)]; congr 1; omega
      · rw [va_up_ne _ _ eq]
        by_cases el : q < i
        · rw [if_pos el, if_pos (by omega)]
        · rw [if_neg el, if_neg (by omega)]
    rw [va_up_self, kCi, if_pos rfl, hf, hfe]
  · rw [va_up_ne _ _ e6]
    by_cases en : j = 10 + i
    · subst en
      rw [va_up_self, kCi, if_neg e6, kC_s hi]
      have : V0 (10 + i) = st0 := by
        rcases (show i = 0 ∨ i = 1 ∨ i = 2 ∨ i = 3 ∨ i = 4 ∨ i = 5 ∨ i = 6 ∨ i = 7 ∨ i = 8 ∨ i = 9 by omega) with rfl | rfl | rfl | rfl | rfl | rfl | rfl | rfl | rfl | rfl <;> rfl
      rw [this]
    · rw [va_up_ne _ _ en, va_up_ne _ _ en, kCi, kCi, if_neg e6, if_neg e6]
theorem l_X0_init {Po : Option Value → mh_H → Prop} (kk : Po none (gB H b 20 (kCi b 10))) : ∀ (r i : Nat), i + r = 10 → mh_G (x_X0_init E 2 19 120 Po) 74 [some (.ref b), some (.int (nI i))] [] (gB H b (10 + i) (kCi b i)) (9 + i) (60 + 6 * i) := by
  intro r
  induction r with
  | zero =>
    intro i hi
    have e : i = 10 := by omega
    subst e
    refine b_X0_init_74 _ _ _ _ _ ?_
    have hge : (10 : Int32) ≤ nI 10 := Int32.le_refl _
    simp +decide only [e_push, e_il, e_ll, e_al, e_is, e_ls, e_as, e_asN, e_inc, e_bin, e_un, e_div, e_i2l, e_l2i, e_binL, e_lneg, e_lcmp, e_dup, e_dup2, e_pop, e_if1, e_if2, e_ifnN, e_ifnR, e_sw, e_sw0, e_sw1, e_gi, e_gr, e_pi, e_pz, e_pr, e_ald, e_lald, e_aald, e_tald, e_alen, e_tlen, e_ast, e_last, e_aast, e_newa, e_newl, e_newq, e_new, e_oi, e_cv, e_cvS, e_ci, e_cs, e_pop0, e_popS, e_iret, e_zret, e_cret, e_bret, e_aret, e_aretN, e_vret, e_gs, e_ac, e_mm, e_ma, e_ldcs, e_gcs, e_gfm, e_gsV, e_gsC, e_bln, e_bld, mh_get, mh_set, mh_one, mh_two, Value.category, mh_po, mh_mc, mh_ms, mh_d, q_X0_init_74, hge, false_implies, true_implies, implies_true, not_true_eq_false, not_false_eq_true, true_or, or_true, and_self, and_assoc, Option.some.injEq, Sum.inl.injEq, Sum.inr.injEq, Prod.mk.injEq, Value.int.injEq, Value.ref.injEq, Value.long.injEq, true_and, and_true, exists_and_left, exists_and_right, exists_eq_left, exists_eq_left', List.getElem?_cons_zero, List.getElem?_cons_succ, List.length_cons, List.length_nil, List.set_cons_zero, List.set_cons_succ, Option.toList, List.cons_append, List.nil_append, List.append_nil, Nat.zero_add, Nat.le_refl, Nat.zero_le, beq_self_eq_true, Option.isNone_none]
    exact kk
  | succ r ih =>
    intro i hi
    refine b_X0_init_74 _ _ _ _ _ ?_
    have hge : ¬ (10 : Int32) ≤ nI i := nI_ge (b := 10) (by omega) (by decide)
    have hv : vp_in (nI i) 10 := vp_in_nI (by omega) (by decide)
    have hcl : (nI i).toNatClampNeg = i := nI_clamp (by omega)
    have hr0 : (gB H b (10 + i) (kCi b i)).2 b = some (.inr (.inl (0, [.ref (b + 1), .ref (b + 6), .ref (b + 7), .int 0, .int 60, .int 40, .int 0, .int 0, .int 0, .int 1]))) := (gB_in0 (by omega)).trans rfl
    have key := ih (i + 1) (by omega)
    simp +decide only [e_push, e_il, e_ll, e_al, e_is, e_ls, e_as, e_asN, e_inc, e_bin, e_un, e_div, e_i2l, e_l2i, e_binL, e_lneg, e_lcmp, e_dup, e_dup2, e_pop, e_if1, e_if2, e_ifnN, e_ifnR, e_sw, e_sw0, e_sw1, e_gi, e_gr, e_pi, e_pz, e_pr, e_ald, e_lald, e_aald, e_tald, e_alen, e_tlen, e_ast, e_last, e_aast, e_newa, e_newl, e_newq, e_new, e_oi, e_cv, e_cvS, e_ci, e_cs, e_pop0, e_popS, e_iret, e_zret, e_cret, e_bret, e_aret, e_aretN, e_vret, e_gs, e_ac, e_mm, e_ma, e_ldcs, e_gcs, e_gfm, e_gsV, e_gsC, e_bln, e_bld, mh_get, mh_set, mh_one, mh_two, Value.category, mh_po, mh_mc, mh_ms, mh_d, q_X0_init_74, hge, hr0, false_implies, true_implies, implies_true, not_true_eq_false, not_false_eq_true, true_or, or_true, and_self, and_assoc, Option.some.injEq, Sum.inl.injEq, Sum.inr.injEq, Prod.mk.injEq, Value.int.injEq, Value.ref.injEq, Value.long.injEq, true_and, and_true, exists_and_left, exists_and_right, exists_eq_left, exists_eq_left', List.getElem?_cons_zero, List.getElem?_cons_succ, List.length_cons, List.length_nil, List.set_cons_zero, List.set_cons_succ, Option.toList, List.cons_append, List.nil_append, List.append_nil, Nat.zero_add, Nat.le_refl, Nat.zero_le, beq_self_eq_true, Option.isNone_none]
    refine ⟨by show 9 + i + 1 ≤ 19; omega, by show 60 + 6 * i + 6 ≤ 120; omega, ?_⟩
    rw [gB_1, gB_new]
    refine mh_en (c_X6_init1 ((gB_in (by omega)).trans (va_up_self _ _ _))) (Nat.le_of_ble_eq_true rfl) (by show 9 + i + 1 + 0 ≤ 19; omega) (by show 60 + 6 * i + 6 + 0 ≤ 120; omega) (Nat.le_of_ble_eq_true rfl) ?_
    rw [gB_put (by omega)]
    simp +decide only [e_push, e_il, e_ll, e_al, e_is, e_ls, e_as, e_asN, e_inc, e_bin, e_un, e_div, e_i2l, e_l2i, e_binL, e_lneg, e_lcmp, e_dup, e_dup2, e_pop, e_if1, e_if2, e_ifnN, e_ifnR, e_sw, e_sw0, e_sw1, e_gi, e_gr, e_pi, e_pz, e_pr, e_ald, e_lald, e_aald, e_tald, e_alen, e_tlen, e_ast, e_last, e_aast, e_newa, e_newl, e_newq, e_new, e_oi, e_cv, e_cvS, e_ci, e_cs, e_pop0, e_popS, e_iret, e_zret, e_cret, e_bret, e_aret, e_aretN, e_vret, e_gs, e_ac, e_mm, e_ma, e_ldcs, e_gcs, e_gfm, e_gsV, e_gsC, e_bln, e_bld, mh_get, mh_set, mh_one, mh_two, Value.category, mh_po, mh_mc, mh_ms, mh_d, false_implies, true_implies, implies_true, not_true_eq_false, not_false_eq_true, true_or, or_true, and_self, and_assoc, Option.some.injEq, Sum.inl.injEq, Sum.inr.injEq, Prod.mk.injEq, Value.int.injEq, Value.ref.injEq, Value.long.injEq, true_and, and_true, exists_and_left, exists_and_right, exists_eq_left, exists_eq_left', List.getElem?_cons_zero, List.getElem?_cons_succ, List.length_cons, List.length_nil, List.set_cons_zero, List.set_cons_succ, Option.toList, List.cons_append, List.nil_append, List.append_nil, Nat.zero_add, Nat.le_refl, Nat.zero_le, beq_self_eq_true, Option.isNone_none]
    refine ⟨10, fun q => if q < i then some (b + 10 + q) else none, (gB_in (by omega)).trans (by rw [va_up_ne _ _ (by omega), va_up_ne _ _ (by omega)]; rfl), ⟨_, (gB_in (by omega)).trans (va_up_self _ _ _)⟩, hv, ?_⟩
    simp +decide only [e_push, e_il, e_ll, e_al, e_is, e_ls, e_as, e_asN, e_inc, e_bin, e_un, e_div, e_i2l, e_l2i, e_binL, e_lneg, e_lcmp, e_dup, e_dup2, e_pop, e_if1, e_if2, e_ifnN, e_ifnR, e_sw, e_sw0, e_sw1, e_gi, e_gr, e_pi, e_pz, e_pr, e_ald, e_lald, e_aald, e_tald, e_alen, e_tlen, e_ast, e_last, e_aast, e_newa, e_newl, e_newq, e_new, e_oi, e_cv, e_cvS, e_ci, e_cs, e_pop0, e_popS, e_iret, e_zret, e_cret, e_bret, e_aret, e_aretN, e_vret, e_gs, e_ac, e_mm, e_ma, e_ldcs, e_gcs, e_gfm, e_gsV, e_gsC, e_bln, e_bld, mh_get, mh_set, mh_one, mh_two, Value.category, mh_po, mh_mc, mh_ms, mh_d, hcl, nI_1, false_implies, true_implies, implies_true, not_true_eq_false, not_false_eq_true, true_or, or_true, and_self, and_assoc, Option.some.injEq, Sum.inl.injEq, Sum.inr.injEq, Prod.mk.injEq, Value.int.injEq, Value.ref.injEq, Value.long.injEq, true_and, and_true, exists_and_left, exists_and_right, exists_eq_left, exists_eq_left', List.getElem?_cons_zero, List.getElem?_cons_succ, List.length_cons, List.length_nil, List.set_cons_zero, List.set_cons_succ, Option.toList, List.cons_append, List.nil_append, List.append_nil, Nat.zero_add, Nat.le_refl, Nat.zero_le, beq_self_eq_true, Option.isNone_none]
    rw [gB_put (by omega), gB_ext (fun j hj => kCi_s (by omega) hj rfl)]
    exact key
theorem c_X0_init0 : mh_M E 2 19 120 yX0_init [.ref b] (gB H b 1 (fun _ => some (.inr (.inl (0, [.null, .null, .null, .int 0, .int 0, .int 0, .int 0, .int 0, .int 0, .int 0]))))) (fun r h' => r = none ∧ h' = gB H b 20 (kC b V0 X0)) := by
  generalize hPo : (fun (r : Option Value) (h' : mh_H) => r = none ∧ h' = gB H b 20 (kC b V0 X0)) = Po
  have fin : Po none (gB H b 20 (kCi b 10)) := by
    rw [← hPo]
    refine ⟨rfl, gB_ext fun i hi => ?_⟩
    by_cases e : i = 6
    · subst e; rfl
    · rw [kCi, if_neg e]
  have lp := l_X0_init (E := E) (H := H) (b := b) fin 10 0 rfl
  refine m_X0_init [some (.ref b), none] rfl (Nat.le_of_ble_eq_true rfl) ?_
  simp +decide only [e_push, e_il, e_ll, e_al, e_is, e_ls, e_as, e_asN, e_inc, e_bin, e_un, e_div, e_i2l, e_l2i, e_binL, e_lneg, e_lcmp, e_dup, e_dup2, e_pop, e_if1, e_if2, e_ifnN, e_ifnR, e_sw, e_sw0, e_sw1, e_gi, e_gr, e_pi, e_pz, e_pr, e_ald, e_lald, e_aald, e_tald, e_alen, e_tlen, e_ast, e_last, e_aast, e_new, e_oi, e_cv, e_cvS, e_ci, e_cs, e_pop0, e_popS, e_iret, e_zret, e_cret, e_bret, e_aret, e_aretN, e_vret, e_gs, e_ac, e_mm, e_ma, e_ldcs, e_gcs, e_gfm, e_gsV, e_gsC, e_bln, e_bld, mh_get, mh_set, mh_one, mh_two, Value.category, mh_po, mh_mc, mh_ms, mh_d, gB_1, gB_new, gB_put, gB_put0, gB_in, gB_in0, gB_gB, jn_lt, jn_ge, va_up_self, va_up_ne, i_in_0, i_cl_0, i_in_1, i_cl_1, i_in_2, i_cl_2, i_in_3, i_cl_3, i_in_4, i_cl_4, i_in_5, i_cl_5, i_in_6, i_cl_6, i_in_7, i_cl_7, i_in_8, i_cl_8, i_in_9, i_cl_9, i_in_10, i_cl_10, i_in_11, i_cl_11, i_in_12, i_cl_12, i_in_13, i_cl_13, i_in_14, i_cl_14, i_in_15, i_cl_15, i_in_16, i_cl_16, i_in_17, i_cl_17, i_in_18, i_cl_18, i_in_19, i_cl_19, i_in_20, i_cl_20, i_in_21, i_cl_21, i_in_22, i_cl_22, i_in_23, i_cl_23, i_in_24, i_cl_24, i_in_25, i_cl_25, i_in_26, i_cl_26, i_in_27, i_cl_27, i_in_28, i_cl_28, i_in_29, i_cl_29, i_in_30, i_cl_30, i_in_31, i_cl_31, i_in_32, i_cl_32, i_in_33, i_cl_33, q_X0_init_0, false_implies, true_implies, implies_true, not_true_eq_false, not_false_eq_true, true_or, or_true, and_self, and_assoc, Option.some.injEq, Sum.inl.injEq, Sum.inr.injEq, Prod.mk.injEq, Value.int.injEq, Value.ref.injEq, Value.long.injEq, true_and, and_true, exists_and_left, exists_and_right, exists_eq_left, exists_eq_left', List.getElem?_cons_zero, List.getElem?_cons_succ, List.length_cons, List.length_nil, List.set_cons_zero, List.set_cons_succ, Option.toList, List.cons_append, List.nil_append, List.append_nil, Nat.zero_add, Nat.le_refl, Nat.zero_le, beq_self_eq_true, Option.isNone_none]
  refine mh_en (c_X3_init (a := b + 1) rfl ((gB_in (by decide)).trans rfl)) (Nat.le_of_ble_eq_true rfl) (Nat.le_of_ble_eq_true rfl) (Nat.le_of_ble_eq_true rfl) (Nat.le_of_ble_eq_true rfl) ?_
  simp +decide only [e_push, e_il, e_ll, e_al, e_is, e_ls, e_as, e_asN, e_inc, e_bin, e_un, e_div, e_i2l, e_l2i, e_binL, e_lneg, e_lcmp, e_dup, e_dup2, e_pop, e_if1, e_if2, e_ifnN, e_ifnR, e_sw, e_sw0, e_sw1, e_gi, e_gr, e_pi, e_pz, e_pr, e_ald, e_lald, e_aald, e_tald, e_alen, e_tlen, e_ast, e_last, e_aast, e_new, e_oi, e_cv, e_cvS, e_ci, e_cs, e_pop0, e_popS, e_iret, e_zret, e_cret, e_bret, e_aret, e_aretN, e_vret, e_gs, e_ac, e_mm, e_ma, e_ldcs, e_gcs, e_gfm, e_gsV, e_gsC, e_bln, e_bld, mh_get, mh_set, mh_one, mh_two, Value.category, mh_po, mh_mc, mh_ms, mh_d, gB_1, gB_new, gB_put, gB_put0, gB_in, gB_in0, gB_gB, jn_lt, jn_ge, va_up_self, va_up_ne, i_in_0, i_cl_0, i_in_1, i_cl_1, i_in_2, i_cl_2, i_in_3, i_cl_3, i_in_4, i_cl_4, i_in_5, i_cl_5, i_in_6, i_cl_6, i_in_7, i_cl_7, i_in_8, i_cl_8, i_in_9, i_cl_9, i_in_10, i_cl_10, i_in_11, i_cl_11, i_in_12, i_cl_12, i_in_13, i_cl_13, i_in_14, i_cl_14, i_in_15, i_cl_15, i_in_16, i_cl_16, i_in_17, i_cl_17, i_in_18, i_cl_18, i_in_19, i_cl_19, i_in_20, i_cl_20, i_in_21, i_cl_21, i_in_22, i_cl_22, i_in_23, i_cl_23, i_in_24, i_cl_24, i_in_25, i_cl_25, i_in_26, i_cl_26, i_in_27, i_cl_27, i_in_28, i_cl_28, i_in_29, i_cl_29, i_in_30, i_cl_30, i_in_31, i_cl_31, i_in_32, i_cl_32, i_in_33, i_cl_33, e_nqL (c := 10) (M := 10) rfl (by decide), false_implies, true_implies, implies_true, not_true_eq_false, not_false_eq_true, true_or, or_true, and_self, and_assoc, Option.some.injEq, Sum.inl.injEq, Sum.inr.injEq, Prod.mk.injEq, Value.int.injEq, Value.ref.injEq, Value.long.injEq, true_and, and_true, exists_and_left, exists_and_right, exists_eq_left, exists_eq_left', List.getElem?_cons_zero, List.getElem?_cons_succ, List.length_cons, List.length_nil, List.set_cons_zero, List.set_cons_succ, Option.toList, List.cons_append, List.nil_append, List.append_nil, Nat.zero_add, Nat.le_refl, Nat.zero_le, beq_self_eq_true, Option.isNone_none]
  refine mh_en (c_X2_init (a := b + 7) rfl ((gB_in (by decide)).trans rfl)) (Nat.le_of_ble_eq_true rfl) (Nat.le_of_ble_eq_true rfl) (Nat.le_of_ble_eq_true rfl) (Nat.le_of_ble_eq_true rfl) ?_
  simp +decide only [e_push, e_il, e_ll, e_al, e_is, e_ls, e_as, e_asN, e_inc, e_bin, e_un, e_div, e_i2l, e_l2i, e_binL, e_lneg, e_lcmp, e_dup, e_dup2, e_pop, e_if1, e_if2, e_ifnN, e_ifnR, e_sw, e_sw0, e_sw1, e_gi, e_gr, e_pi, e_pz, e_pr, e_ald, e_lald, e_aald, e_tald, e_alen, e_tlen, e_ast, e_last, e_aast, e_new, e_oi, e_cv, e_cvS, e_ci, e_cs, e_pop0, e_popS, e_iret, e_zret, e_cret, e_bret, e_aret, e_aretN, e_vret, e_gs, e_ac, e_mm, e_ma, e_ldcs, e_gcs, e_gfm, e_gsV, e_gsC, e_bln, e_bld, mh_get, mh_set, mh_one, mh_two, Value.category, mh_po, mh_mc, mh_ms, mh_d, gB_1, gB_new, gB_put, gB_put0, gB_in, gB_in0, gB_gB, jn_lt, jn_ge, va_up_self, va_up_ne, i_in_0, i_cl_0, i_in_1, i_cl_1, i_in_2, i_cl_2, i_in_3, i_cl_3, i_in_4, i_cl_4, i_in_5, i_cl_5, i_in_6, i_cl_6, i_in_7, i_cl_7, i_in_8, i_cl_8, i_in_9, i_cl_9, i_in_10, i_cl_10, i_in_11, i_cl_11, i_in_12, i_cl_12, i_in_13, i_cl_13, i_in_14, i_cl_14, i_in_15, i_cl_15, i_in_16, i_cl_16, i_in_17, i_cl_17, i_in_18, i_cl_18, i_in_19, i_cl_19, i_in_20, i_cl_20, i_in_21, i_cl_21, i_in_22, i_cl_22, i_in_23, i_cl_23, i_in_24, i_cl_24, i_in_25, i_cl_25, i_in_26, i_cl_26, i_in_27, i_cl_27, i_in_28, i_cl_28, i_in_29, i_cl_29, i_in_30, i_cl_30, i_in_31, i_cl_31, i_in_32, i_cl_32, i_in_33, i_cl_33, false_implies, true_implies, implies_true, not_true_eq_false, not_false_eq_true, true_or, or_true, and_self, and_assoc, Option.some.injEq, Sum.inl.injEq, Sum.inr.injEq, Prod.mk.injEq, Value.int.injEq, Value.ref.injEq, Value.long.injEq, true_and, and_true, exists_and_left, exists_and_right, exists_eq_left, exists_eq_left', List.getElem?_cons_zero, List.getElem?_cons_succ, List.length_cons, List.length_nil, List.set_cons_zero, List.set_cons_succ, Option.toList, List.cons_append, List.nil_append, List.append_nil, Nat.zero_add, Nat.le_refl, Nat.zero_le, beq_self_eq_true, Option.isNone_none]
  refine cast ?_ lp
  congr 1
  refine gB_ext fun i hi => ?_
  match i, hi with
  | 0, _ => rfl
  | 1, _ => rfl
  | 2, _ => rfl
  | 3, _ => rfl
  | 4, _ => rfl
  | 5, _ => rfl
  | 6, _ => rfl
  | 7, _ => rfl
  | 8, _ => rfl
  | 9, _ => rfl
theorem c_X0_init (hs : H.1 = b + 1) (ha : H.2 b = some (.inr (.inl (0, [.null, .null, .null, .int 0, .int 0, .int 0, .int 0, .int 0, .int 0, .int 0])))) : mh_M E 2 19 120 yX0_init [.ref b] H (fun r h' => r = none ∧ h' = gB H b 20 (kC b V0 X0)) := by
  have := c_X0_init0 (E := E) (H := H) (b := b)
  rwa [gB_of hs ha] at this
end INJ
