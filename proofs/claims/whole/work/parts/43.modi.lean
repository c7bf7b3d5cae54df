/-! PART 43: the model: thoughts: all is put back -/
/-- the first k places of one row, the others of another one -/
def cpN (f g : Nat → Int32) (k : Nat) : Nat → Int32 := fun j => if j < k then f j else g j
theorem cpN_0 (f g : Nat → Int32) : cpN f g 0 = g := funext fun j => by simp [cpN]
theorem cpN_s (f g : Nat → Int32) (k : Nat) : upd (cpN f g k) k (f k) = cpN f g (k + 1) := funext fun j => by
  by_cases e : j = k
  · subst e; simp [cpN, upd]
  · by_cases e2 : j < k
    · simp [cpN, upd, e, e2, show j < k + 1 by omega]
    · simp [cpN, upd, e, e2, show ¬ j < k + 1 by omega]
/-- the row that thoughts keep -/
def th (A : Nat → Nat → Int32) : Nat → Nat → Int32 := va_up A 4 (cpN (A 1) (A 4) 80)
theorem th_4 (A : Nat → Nat → Int32) : th A 4 = cpN (A 1) (A 4) 80 := va_up_self _ _ _
theorem th_ne {A : Nat → Nat → Int32} {r : Nat} (h : r ≠ 4) : th A r = A r := va_up_ne _ _ h
theorem up_id {A : Nat → Nat → Int32} {r : Nat} : va_up A r (A r) = A := funext fun q => by by_cases e : q = r <;> simp [va_up, e]
theorem up_comm {A : Nat → Nat → Int32} {r s : Nat} {f g : Nat → Int32} (h : r ≠ s) : va_up (va_up A r f) s g = va_up (va_up A s g) r f := funext fun q => by
  by_cases e : q = r
  · subst e; simp [va_up, h]
  · by_cases e2 : q = s <;> simp [va_up, e, e2, Ne.symm h]
section MOI
variable {E : mh_E} {h : mh_H} {R : Nat} {A : Nat → Nat → Int32} {L : Nat → Int64} {F : Nat → Int32} {v w x : Int32}
theorem l_X10_thinks {Post : Option Value → mh_H → Prop} (hpo : Post none (hM h R (th A) L F)) : ∀ (j k : Nat) (c : Int32), k + j = 80 → c = nI k → mh_G (x_X10_thinks E 0 0 0 Post) 2 [some (.ref R), some (.int c)] [] (hM h R (va_up A 4 (cpN (A 1) (A 4) k)) L F) 0 0 := by
  intro j
  induction j with
  | zero =>
    intro k c hk hc
    have hk : k = 80 := hk
    subst hk hc
    refine b_X10_thinks_2 _ _ _ _ _ ?_
    simp +decide only [q_X10_thinks_2, e_push, e_il, e_ll, e_al, e_is, e_ls, e_as, e_asN, e_inc, e_bin, e_un, e_div, e_i2l, e_l2i, e_binL, e_lneg, e_lcmp, e_dup, e_dup2, e_pop, e_if1, e_if2, e_ifnN, e_ifnR, e_sw, e_sw0, e_sw1, e_gi, e_gr, e_pi, e_pz, e_pr, e_ald, e_lald, e_aald, e_tald, e_alen, e_tlen, e_ast, e_last, e_aast, e_newa, e_newl, e_newq, e_new, e_oi, e_cv, e_cvS, e_ci, e_cs, e_pop0, e_popS, e_iret, e_zret, e_cret, e_bret, e_aret, e_aretN, e_vret, e_gs, e_ac, e_mm, e_ma, e_ldcs, e_gcs, e_gfm, e_gsV, e_gsC, e_bln, e_bld, mh_get, mh_set, mh_one, mh_two, Value.category, mh_po, mh_mc, mh_ms, mh_d, false_implies, true_implies, implies_true, not_true_eq_false, not_false_eq_true, true_or, or_true, and_self, and_assoc, Option.some.injEq, Sum.inl.injEq, Sum.inr.injEq, Prod.mk.injEq, Value.int.injEq, Value.ref.injEq, Value.long.injEq, true_and, and_true, exists_and_left, exists_and_right, exists_eq_left, exists_eq_left', List.getElem?_cons_zero, List.getElem?_cons_succ, List.length_cons, List.length_nil, List.set_cons_zero, List.set_cons_succ, Option.toList, List.cons_append, List.nil_append, List.append_nil, Nat.zero_add, Nat.le_refl, Nat.zero_le, beq_self_eq_true, Option.isNone_none]
    exact hpo
  | succ j ih =>
    intro k c hk hc
    subst hc
    have hge : ¬ (80 : Int32) ≤ nI k := nI_ge (b := 80) (by omega) (by decide)
    have hv : vp_in (nI k) 80 := vp_in_nI (by omega) (by decide)
    have hv2 : vp_in (nI k) 1452 := vp_in_nI (by omega) (by decide)
    have hcl : (nI k).toNatClampNeg = k := nI_clamp (by omega)
    refine b_X10_thinks_2 _ _ _ _ _ ?_
    simp +decide only [q_X10_thinks_2, e_push, e_il, e_ll, e_al, e_is, e_ls, e_as, e_asN, e_inc, e_bin, e_un, e_div, e_i2l, e_l2i, e_binL, e_lneg, e_lcmp, e_dup, e_dup2, e_pop, e_if1, e_if2, e_ifnN, e_ifnR, e_sw, e_sw0, e_sw1, e_gi, e_gr, e_pi, e_pz, e_pr, e_ald, e_lald, e_aald, e_tald, e_alen, e_tlen, e_ast, e_last, e_aast, e_newa, e_newl, e_newq, e_new, e_oi, e_cv, e_cvS, e_ci, e_cs, e_pop0, e_popS, e_iret, e_zret, e_cret, e_bret, e_aret, e_aretN, e_vret, e_gs, e_ac, e_mm, e_ma, e_ldcs, e_gcs, e_gfm, e_gsV, e_gsC, e_bln, e_bld, mh_get, mh_set, mh_one, mh_two, Value.category, mh_po, mh_mc, mh_ms, mh_d, hM_0, hM_1, hM_2, hM_3, hM_4, hM_5, hM_6, hM_7, hM_8, hM_9, hM_10, hM_11, hM_12, hM_13, hM_14, hM_15, hM_16, hM_17, hM_18, hM_19, hM_20, hM_21, hM_22, hM_p1, hM_p2, hM_p3, hM_p4, hM_p5, hM_p6, hM_p7, hM_p8, hM_p9, hM_p10, hM_p11, hM_p12, hM_p13, hM_p14, hM_p15, hM_p16, hM_p17, hM_p18, hM_p19, hM_p20, hM_p21, hM_p22, hM_f3, hM_f7, hM_f8, hM_f9, hM_f10, hM_f11, hM_f12, hM_f13, hM_f17, hM_f18, hM_f20, hM_f33, hge, hv, hv2, hcl, va_up_self, va_up_ne, bx_uu, cpN_s, false_implies, true_implies, implies_true, not_true_eq_false, not_false_eq_true, true_or, or_true, and_self, and_assoc, Option.some.injEq, Sum.inl.injEq, Sum.inr.injEq, Prod.mk.injEq, Value.int.injEq, Value.ref.injEq, Value.long.injEq, true_and, and_true, exists_and_left, exists_and_right, exists_eq_left, exists_eq_left', List.getElem?_cons_zero, List.getElem?_cons_succ, List.length_cons, List.length_nil, List.set_cons_zero, List.set_cons_succ, Option.toList, List.cons_append, List.nil_append, List.append_nil, Nat.zero_add, Nat.le_refl, Nat.zero_le, beq_self_eq_true, Option.isNone_none]
    exact ih (k + 1) _ (by omega) (nI_succ k).symm
theorem c_X10_thinks : mh_M E 0 0 0 yX10_thinks [.ref R] (hM h R A L F) (fun r h' => r = none ∧ h' = hM h R (th A) L F) := by
  refine m_X10_thinks [some (.ref R), none] rfl (Nat.le_of_ble_eq_true rfl) ?_
  simp +decide only [q_X10_thinks_0, e_push, e_il, e_ll, e_al, e_is, e_ls, e_as, e_asN, e_inc, e_bin, e_un, e_div, e_i2l, e_l2i, e_binL, e_lneg, e_lcmp, e_dup, e_dup2, e_pop, e_if1, e_if2, e_ifnN, e_ifnR, e_sw, e_sw0, e_sw1, e_gi, e_gr, e_pi, e_pz, e_pr, e_ald, e_lald, e_aald, e_tald, e_alen, e_tlen, e_ast, e_last, e_aast, e_newa, e_newl, e_newq, e_new, e_oi, e_cv, e_cvS, e_ci, e_cs, e_pop0, e_popS, e_iret, e_zret, e_cret, e_bret, e_aret, e_aretN, e_vret, e_gs, e_ac, e_mm, e_ma, e_ldcs, e_gcs, e_gfm, e_gsV, e_gsC, e_bln, e_bld, mh_get, mh_set, mh_one, mh_two, Value.category, mh_po, mh_mc, mh_ms, mh_d, false_implies, true_implies, implies_true, not_true_eq_false, not_false_eq_true, true_or, or_true, and_self, and_assoc, Option.some.injEq, Sum.inl.injEq, Sum.inr.injEq, Prod.mk.injEq, Value.int.injEq, Value.ref.injEq, Value.long.injEq, true_and, and_true, exists_and_left, exists_and_right, exists_eq_left, exists_eq_left', List.getElem?_cons_zero, List.getElem?_cons_succ, List.length_cons, List.length_nil, List.set_cons_zero, List.set_cons_succ, Option.toList, List.cons_append, List.nil_append, List.append_nil, Nat.zero_add, Nat.le_refl, Nat.zero_le, beq_self_eq_true, Option.isNone_none]
  have := l_X10_thinks (E := E) (h := h) (R := R) (A := A) (L := L) (F := F) (Post := fun r h' => r = none ∧ h' = hM h R (th A) L F) ⟨rfl, rfl⟩ 80 0 0 (by decide) rfl
  rw [cpN_0, up_id] at this
  exact this
theorem l_X10_putsBack {B : Nat → Nat → Int32} {Post : Option Value → mh_H → Prop} (hpo : Post none (hM h R (va_up B 1 (cpN (B 4) (B 1) 80)) L F)) : ∀ (j k : Nat) (c : Int32), k + j = 80 → c = nI k → mh_G (x_X10_putsBack E 0 0 0 Post) 2 [some (.ref R), some (.int c)] [] (hM h R (va_up B 1 (cpN (B 4) (B 1) k)) L F) 0 0 := by
  intro j
  induction j with
  | zero =>
    intro k c hk hc
    have hk : k = 80 := hk
    subst hk hc
    refine b_X10_putsBack_2 _ _ _ _ _ ?_
    simp +decide only [q_X10_putsBack_2, e_push, e_il, e_ll, e_al, e_is, e_ls, e_as, e_asN, e_inc, e_bin, e_un, e_div, e_i2l, e_l2i, e_binL, e_lneg, e_lcmp, e_dup, e_dup2, e_pop, e_if1, e_if2, e_ifnN, e_ifnR, e_sw, e_sw0, e_sw1, e_gi, e_gr, e_pi, e_pz, e_pr, e_ald, e_lald, e_aald, e_tald, e_alen, e_tlen, e_ast, e_last, e_aast, e_newa, e_newl, e_newq, e_new, e_oi, e_cv, e_cvS, e_ci, e_cs, e_pop0, e_popS, e_iret, e_zret, e_cret, e_bret, e_aret, e_aretN, e_vret, e_gs, e_ac, e_mm, e_ma, e_ldcs, e_gcs, e_gfm, e_gsV, e_gsC, e_bln, e_bld, mh_get, mh_set, mh_one, mh_two, Value.category, mh_po, mh_mc, mh_ms, mh_d, false_implies, true_implies, implies_true, not_true_eq_false, not_false_eq_true, true_or, or_true, and_self, and_assoc, Option.some.injEq, Sum.inl.injEq, Sum.inr.injEq, Prod.mk.injEq, Value.int.injEq, Value.ref.injEq, Value.long.injEq, true_and, and_true, exists_and_left, exists_and_right, exists_eq_left, exists_eq_left', List.getElem?_cons_zero, List.getElem?_cons_succ, List.length_cons, List.length_nil, List.set_cons_zero, List.set_cons_succ, Option.toList, List.cons_append, List.nil_append, List.append_nil, Nat.zero_add, Nat.le_refl, Nat.zero_le, beq_self_eq_true, Option.isNone_none]
    exact hpo
  | succ j ih =>
    intro k c hk hc
    subst hc
    have hge : ¬ (80 : Int32) ≤ nI k := nI_ge (b := 80) (by omega) (by decide)
    have hv : vp_in (nI k) 80 := vp_in_nI (by omega) (by decide)
    have hv2 : vp_in (nI k) 1452 := vp_in_nI (by omega) (by decide)
    have hcl : (nI k).toNatClampNeg = k := nI_clamp (by omega)
    refine b_X10_putsBack_2 _ _ _ _ _ ?_
    simp +decide only [q_X10_putsBack_2, e_push, e_il, e_ll, e_al, e_is, e_ls, e_as, e_asN, e_inc, e_bin, e_un, e_div, e_i2l, e_l2i, e_binL, e_lneg, e_lcmp, e_dup, e_dup2, e_pop, e_if1, e_if2, e_ifnN, e_ifnR, e_sw, e_sw0, e_sw1, e_gi, e_gr, e_pi, e_pz, e_pr, e_ald, e_lald, e_aald, e_tald, e_alen, e_tlen, e_ast, e_last, e_aast, e_newa, e_newl, e_newq, e_new, e_oi, e_cv, e_cvS, e_ci, e_cs, e_pop0, e_popS, e_iret, e_zret, e_cret, e_bret, e_aret, e_aretN, e_vret, e_gs, e_ac, e_mm, e_ma, e_ldcs, e_gcs, e_gfm, e_gsV, e_gsC, e_bln, e_bld, mh_get, mh_set, mh_one, mh_two, Value.category, mh_po, mh_mc, mh_ms, mh_d, hM_0, hM_1, hM_2, hM_3, hM_4, hM_5, hM_6, hM_7, hM_8, hM_9, hM_10, hM_11, hM_12, hM_13, hM_14, hM_15, hM_16, hM_17, hM_18, hM_19, hM_20, hM_21, hM_22, hM_p1, hM_p2, hM_p3, hM_p4, hM_p5, hM_p6, hM_p7, hM_p8, hM_p9, hM_p10, hM_p11, hM_p12, hM_p13, hM_p14, hM_p15, hM_p16, hM_p17, hM_p18, hM_p19, hM_p20, hM_p21, hM_p22, hM_f3, hM_f7, hM_f8, hM_f9, hM_f10, hM_f11, hM_f12, hM_f13, hM_f17, hM_f18, hM_f20, hM_f33, hge, hv, hv2, hcl, va_up_self, va_up_ne, bx_uu, cpN_s, false_implies, true_implies, implies_true, not_true_eq_false, not_false_eq_true, true_or, or_true, and_self, and_assoc, Option.some.injEq, Sum.inl.injEq, Sum.inr.injEq, Prod.mk.injEq, Value.int.injEq, Value.ref.injEq, Value.long.injEq, true_and, and_true, exists_and_left, exists_and_right, exists_eq_left, exists_eq_left', List.getElem?_cons_zero, List.getElem?_cons_succ, List.length_cons, List.length_nil, List.set_cons_zero, List.set_cons_succ, Option.toList, List.cons_append, List.nil_append, List.append_nil, Nat.zero_add, Nat.le_refl, Nat.zero_le, beq_self_eq_true, Option.isNone_none]
    exact ih (k + 1) _ (by omega) (nI_succ k).symm
theorem c_X10_putsBack0 {B : Nat → Nat → Int32} : mh_M E 0 0 0 yX10_putsBack [.ref R] (hM h R B L F) (fun r h' => r = none ∧ h' = hM h R (va_up B 1 (cpN (B 4) (B 1) 80)) L F) := by
  refine m_X10_putsBack [some (.ref R), none] rfl (Nat.le_of_ble_eq_true rfl) ?_
  simp +decide only [q_X10_putsBack_0, e_push, e_il, e_ll, e_al, e_is, e_ls, e_as, e_asN, e_inc, e_bin, e_un, e_div, e_i2l, e_l2i, e_binL, e_lneg, e_lcmp, e_dup, e_dup2, e_pop, e_if1, e_if2, e_ifnN, e_ifnR, e_sw, e_sw0, e_sw1, e_gi, e_gr, e_pi, e_pz, e_pr, e_ald, e_lald, e_aald, e_tald, e_alen, e_tlen, e_ast, e_last, e_aast, e_newa, e_newl, e_newq, e_new, e_oi, e_cv, e_cvS, e_ci, e_cs, e_pop0, e_popS, e_iret, e_zret, e_cret, e_bret, e_aret, e_aretN, e_vret, e_gs, e_ac, e_mm, e_ma, e_ldcs, e_gcs, e_gfm, e_gsV, e_gsC, e_bln, e_bld, mh_get, mh_set, mh_one, mh_two, Value.category, mh_po, mh_mc, mh_ms, mh_d, false_implies, true_implies, implies_true, not_true_eq_false, not_false_eq_true, true_or, or_true, and_self, and_assoc, Option.some.injEq, Sum.inl.injEq, Sum.inr.injEq, Prod.mk.injEq, Value.int.injEq, Value.ref.injEq, Value.long.injEq, true_and, and_true, exists_and_left, exists_and_right, exists_eq_left, exists_eq_left', List.getElem?_cons_zero, List.getElem?_cons_succ, List.length_cons, List.length_nil, List.set_cons_zero, List.set_cons_succ, Option.toList, List.cons_append, List.nil_append, List.append_nil, Nat.zero_add, Nat.le_refl, Nat.zero_le, beq_self_eq_true, Option.isNone_none]
  have := l_X10_putsBack (E := E) (h := h) (R := R) (B := B) (L := L) (F := F) (Post := fun r h' => r = none ∧ h' = hM h R (va_up B 1 (cpN (B 4) (B 1) 80)) L F) ⟨rfl, rfl⟩ 80 0 0 (by decide) rfl
  rw [cpN_0, up_id] at this
  exact this
/-- behind a thought: all is as it was -/
theorem c_X10_putsBack {M f g : Nat → Int32} (hq : ∀ q, 80 ≤ q → M q = A 1 q) : mh_M E 0 0 0 yX10_putsBack [.ref R] (hM h R (sc (va_up (th A) 1 M) f g) L F) (fun r h' => r = none ∧ h' = hM h R (sc (th A) f g) L F) := by
  refine mh_M.mono c_X10_putsBack0 ?_
  rintro r h' ⟨rfl, rfl⟩
  refine ⟨rfl, ?_⟩
  congr 1
  rw [sc_ne (r := 1) (by decide) (by decide), sc_ne (r := 4) (by decide) (by decide), va_up_self, va_up_ne _ _ (by decide), th_4, sc_up (by decide) (by decide), bx_uu]
  congr 1
  have e : cpN (cpN (A 1) (A 4) 80) M 80 = A 1 := funext fun j => by
    by_cases e : j < 80
    · simp [cpN, e]
    · simp [cpN, e, hq j (by omega)]
  rw [e, ← th_ne (A := A) (r := 1) (by decide), up_id]
theorem c_X10_putsBack' {M : Nat → Int32} (hq : ∀ q, 80 ≤ q → M q = A 1 q) : mh_M E 0 0 0 yX10_putsBack [.ref R] (hM h R (va_up (th A) 1 M) L F) (fun r h' => r = none ∧ h' = hM h R (th A) L F) := by
  have := c_X10_putsBack (E := E) (h := h) (R := R) (A := A) (L := L) (F := F) (f := A 13) (g := A 12) hq
  have e1 := sc_id (A := va_up (th A) 1 M)
  rw [va_up_ne _ _ (by decide), va_up_ne _ _ (by decide), th_ne (by decide), th_ne (by decide)] at e1
  have e2 := sc_id (A := th A)
  rw [th_ne (by decide), th_ne (by decide)] at e2
  rw [e1, e2] at this
  exact this
theorem l_X10_copyAll {a b : Nat} {h0 : mh_H} {f g : Nat → Int32} (hab : ¬ a = b) (hf : h0.2 a = some (.inl (0, 1452, .inl f))) {Post : Option Value → mh_H → Prop} (hpo : Post none (mh_put h0 b (.inl (0, 1452, .inl (cpN f g 1452))))) : ∀ (j k : Nat) (c : Int32), k + j = 1452 → c = nI k → mh_G (x_X10_copyAll E 0 0 0 Post) 2 [some (.ref a), some (.ref b), some (.int c)] [] (mh_put h0 b (.inl (0, 1452, .inl (cpN f g k)))) 0 0 := by
  intro j
  induction j with
  | zero =>
    intro k c hk hc
    have hk : k = 1452 := hk
    subst hk hc
    refine b_X10_copyAll_2 _ _ _ _ _ ?_
    simp +decide only [q_X10_copyAll_2, e_push, e_il, e_ll, e_al, e_is, e_ls, e_as, e_asN, e_inc, e_bin, e_un, e_div, e_i2l, e_l2i, e_binL, e_lneg, e_lcmp, e_dup, e_dup2, e_pop, e_if1, e_if2, e_ifnN, e_ifnR, e_sw, e_sw0, e_sw1, e_gi, e_gr, e_pi, e_pz, e_pr, e_ald, e_lald, e_aald, e_tald, e_alen, e_tlen, e_ast, e_last, e_aast, e_newa, e_newl, e_newq, e_new, e_oi, e_cv, e_cvS, e_ci, e_cs, e_pop0, e_popS, e_iret, e_zret, e_cret, e_bret, e_aret, e_aretN, e_vret, e_gs, e_ac, e_mm, e_ma, e_ldcs, e_gcs, e_gfm, e_gsV, e_gsC, e_bln, e_bld, mh_get, mh_set, mh_one, mh_two, Value.category, mh_po, mh_mc, mh_ms, mh_d, false_implies, true_implies, implies_true, not_true_eq_false, not_false_eq_true, true_or, or_true, and_self, and_assoc, Option.some.injEq, Sum.inl.injEq, Sum.inr.injEq, Prod.mk.injEq, Value.int.injEq, Value.ref.injEq, Value.long.injEq, true_and, and_true, exists_and_left, exists_and_right, exists_eq_left, exists_eq_left', List.getElem?_cons_zero, List.getElem?_cons_succ, List.length_cons, List.length_nil, List.set_cons_zero, List.set_cons_succ, Option.toList, List.cons_append, List.nil_append, List.append_nil, Nat.zero_add, Nat.le_refl, Nat.zero_le, beq_self_eq_true, Option.isNone_none]
    exact hpo
  | succ j ih =>
    intro k c hk hc
    subst hc
    have hge : ¬ (1452 : Int32) ≤ nI k := nI_ge (b := 1452) (by omega) (by decide)
    have hv2 : vp_in (nI k) 1452 := vp_in_nI (by omega) (by decide)
    have hcl : (nI k).toNatClampNeg = k := nI_clamp (by omega)
    refine b_X10_copyAll_2 _ _ _ _ _ ?_
    simp +decide only [q_X10_copyAll_2, e_push, e_il, e_ll, e_al, e_is, e_ls, e_as, e_asN, e_inc, e_bin, e_un, e_div, e_i2l, e_l2i, e_binL, e_lneg, e_lcmp, e_dup, e_dup2, e_pop, e_if1, e_if2, e_ifnN, e_ifnR, e_sw, e_sw0, e_sw1, e_gi, e_gr, e_pi, e_pz, e_pr, e_ald, e_lald, e_aald, e_tald, e_alen, e_tlen, e_ast, e_last, e_aast, e_newa, e_newl, e_newq, e_new, e_oi, e_cv, e_cvS, e_ci, e_cs, e_pop0, e_popS, e_iret, e_zret, e_cret, e_bret, e_aret, e_aretN, e_vret, e_gs, e_ac, e_mm, e_ma, e_ldcs, e_gcs, e_gfm, e_gsV, e_gsC, e_bln, e_bld, mh_get, mh_set, mh_one, mh_two, Value.category, mh_po, mh_mc, mh_ms, mh_d, mh_put_ne hab, hf, mh_put_self, mh_put_put, hge, hv2, hcl, cpN_s, false_implies, true_implies, implies_true, not_true_eq_false, not_false_eq_true, true_or, or_true, and_self, and_assoc, Option.some.injEq, Sum.inl.injEq, Sum.inr.injEq, Prod.mk.injEq, Value.int.injEq, Value.ref.injEq, Value.long.injEq, true_and, and_true, exists_and_left, exists_and_right, exists_eq_left, exists_eq_left', List.getElem?_cons_zero, List.getElem?_cons_succ, List.length_cons, List.length_nil, List.set_cons_zero, List.set_cons_succ, Option.toList, List.cons_append, List.nil_append, List.append_nil, Nat.zero_add, Nat.le_refl, Nat.zero_le, beq_self_eq_true, Option.isNone_none]
    exact ih (k + 1) _ (by omega) (nI_succ k).symm
theorem c_X10_copyAll {a b : Nat} {h0 : mh_H} {f g : Nat → Int32} (hab : ¬ a = b) (hf : h0.2 a = some (.inl (0, 1452, .inl f))) (hg : h0.2 b = some (.inl (0, 1452, .inl g))) : mh_M E 0 0 0 yX10_copyAll [.ref a, .ref b] h0 (fun r h' => r = none ∧ h' = mh_put h0 b (.inl (0, 1452, .inl (cpN f g 1452)))) := by
  refine m_X10_copyAll [some (.ref a), some (.ref b), none] rfl (Nat.le_of_ble_eq_true rfl) ?_
  simp +decide only [q_X10_copyAll_0, e_push, e_il, e_ll, e_al, e_is, e_ls, e_as, e_asN, e_inc, e_bin, e_un, e_div, e_i2l, e_l2i, e_binL, e_lneg, e_lcmp, e_dup, e_dup2, e_pop, e_if1, e_if2, e_ifnN, e_ifnR, e_sw, e_sw0, e_sw1, e_gi, e_gr, e_pi, e_pz, e_pr, e_ald, e_lald, e_aald, e_tald, e_alen, e_tlen, e_ast, e_last, e_aast, e_newa, e_newl, e_newq, e_new, e_oi, e_cv, e_cvS, e_ci, e_cs, e_pop0, e_popS, e_iret, e_zret, e_cret, e_bret, e_aret, e_aretN, e_vret, e_gs, e_ac, e_mm, e_ma, e_ldcs, e_gcs, e_gfm, e_gsV, e_gsC, e_bln, e_bld, mh_get, mh_set, mh_one, mh_two, Value.category, mh_po, mh_mc, mh_ms, mh_d, false_implies, true_implies, implies_true, not_true_eq_false, not_false_eq_true, true_or, or_true, and_self, and_assoc, Option.some.injEq, Sum.inl.injEq, Sum.inr.injEq, Prod.mk.injEq, Value.int.injEq, Value.ref.injEq, Value.long.injEq, true_and, and_true, exists_and_left, exists_and_right, exists_eq_left, exists_eq_left', List.getElem?_cons_zero, List.getElem?_cons_succ, List.length_cons, List.length_nil, List.set_cons_zero, List.set_cons_succ, Option.toList, List.cons_append, List.nil_append, List.append_nil, Nat.zero_add, Nat.le_refl, Nat.zero_le, beq_self_eq_true, Option.isNone_none]
  have := l_X10_copyAll (E := E) (g := g) hab hf (Post := fun r h' => r = none ∧ h' = mh_put h0 b (.inl (0, 1452, .inl (cpN f g 1452)))) ⟨rfl, rfl⟩ 1452 0 0 (by decide) rfl
  rw [cpN_0, mh_put_same hg] at this
  exact this
theorem c_X10_keep : mh_M E 1 0 0 yX10_keep [.ref R] (hM h R A L F) (fun r h' => r = some (.int (A 1 1)) ∧ h' = hM h R (va_up A 2 (cpN (A 1) (A 2) 1452)) L (upd F 3 1)) := by
  refine m_X10_keep [some (.ref R)] rfl (Nat.le_of_ble_eq_true rfl) ?_
  simp +decide only [q_X10_keep_0, e_push, e_il, e_ll, e_al, e_is, e_ls, e_as, e_asN, e_inc, e_bin, e_un, e_div, e_i2l, e_l2i, e_binL, e_lneg, e_lcmp, e_dup, e_dup2, e_pop, e_if1, e_if2, e_ifnN, e_ifnR, e_sw, e_sw0, e_sw1, e_gi, e_gr, e_pi, e_pz, e_pr, e_ald, e_lald, e_aald, e_tald, e_alen, e_tlen, e_ast, e_last, e_aast, e_newa, e_newl, e_newq, e_new, e_oi, e_cv, e_cvS, e_ci, e_cs, e_pop0, e_popS, e_iret, e_zret, e_cret, e_bret, e_aret, e_aretN, e_vret, e_gs, e_ac, e_mm, e_ma, e_ldcs, e_gcs, e_gfm, e_gsV, e_gsC, e_bln, e_bld, mh_get, mh_set, mh_one, mh_two, Value.category, mh_po, mh_mc, mh_ms, mh_d, hM_0, hM_1, hM_2, hM_3, hM_4, hM_5, hM_6, hM_7, hM_8, hM_9, hM_10, hM_11, hM_12, hM_13, hM_14, hM_15, hM_16, hM_17, hM_18, hM_19, hM_20, hM_21, hM_22, hM_p1, hM_p2, hM_p3, hM_p4, hM_p5, hM_p6, hM_p7, hM_p8, hM_p9, hM_p10, hM_p11, hM_p12, hM_p13, hM_p14, hM_p15, hM_p16, hM_p17, hM_p18, hM_p19, hM_p20, hM_p21, hM_p22, hM_f3, hM_f7, hM_f8, hM_f9, hM_f10, hM_f11, hM_f12, hM_f13, hM_f17, hM_f18, hM_f20, hM_f33, false_implies, true_implies, implies_true, not_true_eq_false, not_false_eq_true, true_or, or_true, and_self, and_assoc, Option.some.injEq, Sum.inl.injEq, Sum.inr.injEq, Prod.mk.injEq, Value.int.injEq, Value.ref.injEq, Value.long.injEq, true_and, and_true, exists_and_left, exists_and_right, exists_eq_left, exists_eq_left', List.getElem?_cons_zero, List.getElem?_cons_succ, List.length_cons, List.length_nil, List.set_cons_zero, List.set_cons_succ, Option.toList, List.cons_append, List.nil_append, List.append_nil, Nat.zero_add, Nat.le_refl, Nat.zero_le, beq_self_eq_true, Option.isNone_none]
  refine mh_ex (c_X10_copyAll (by omega) hM_1 hM_2) (Nat.le_of_ble_eq_true rfl) (Nat.le_of_ble_eq_true rfl) (Nat.le_of_ble_eq_true rfl) (Nat.le_of_ble_eq_true rfl) ?_
  simp +decide only [e_push, e_il, e_ll, e_al, e_is, e_ls, e_as, e_asN, e_inc, e_bin, e_un, e_div, e_i2l, e_l2i, e_binL, e_lneg, e_lcmp, e_dup, e_dup2, e_pop, e_if1, e_if2, e_ifnN, e_ifnR, e_sw, e_sw0, e_sw1, e_gi, e_gr, e_pi, e_pz, e_pr, e_ald, e_lald, e_aald, e_tald, e_alen, e_tlen, e_ast, e_last, e_aast, e_newa, e_newl, e_newq, e_new, e_oi, e_cv, e_cvS, e_ci, e_cs, e_pop0, e_popS, e_iret, e_zret, e_cret, e_bret, e_aret, e_aretN, e_vret, e_gs, e_ac, e_mm, e_ma, e_ldcs, e_gcs, e_gfm, e_gsV, e_gsC, e_bln, e_bld, mh_get, mh_set, mh_one, mh_two, Value.category, mh_po, mh_mc, mh_ms, mh_d, hM_0, hM_1, hM_2, hM_3, hM_4, hM_5, hM_6, hM_7, hM_8, hM_9, hM_10, hM_11, hM_12, hM_13, hM_14, hM_15, hM_16, hM_17, hM_18, hM_19, hM_20, hM_21, hM_22, hM_p1, hM_p2, hM_p3, hM_p4, hM_p5, hM_p6, hM_p7, hM_p8, hM_p9, hM_p10, hM_p11, hM_p12, hM_p13, hM_p14, hM_p15, hM_p16, hM_p17, hM_p18, hM_p19, hM_p20, hM_p21, hM_p22, hM_f3, hM_f7, hM_f8, hM_f9, hM_f10, hM_f11, hM_f12, hM_f13, hM_f17, hM_f18, hM_f20, hM_f33, i_in_0, i_cl_0, i_in_1, i_cl_1, i_in_2, i_cl_2, i_in_3, i_cl_3, i_in_4, i_cl_4, i_in_5, i_cl_5, i_in_6, i_cl_6, i_in_7, i_cl_7, i_in_8, i_cl_8, i_in_9, i_cl_9, i_in_10, i_cl_10, i_in_11, i_cl_11, i_in_12, i_cl_12, i_in_13, i_cl_13, i_in_14, i_cl_14, i_in_15, i_cl_15, i_in_16, i_cl_16, i_in_17, i_cl_17, i_in_18, i_cl_18, i_in_19, i_cl_19, i_in_20, i_cl_20, i_in_21, i_cl_21, i_in_22, i_cl_22, i_in_23, i_cl_23, i_in_24, i_cl_24, i_in_25, i_cl_25, i_in_26, i_cl_26, i_in_27, i_cl_27, i_in_28, i_cl_28, i_in_29, i_cl_29, i_in_30, i_cl_30, i_in_31, i_cl_31, i_in_32, i_cl_32, i_in_33, i_cl_33, va_up_ne, false_implies, true_implies, implies_true, not_true_eq_false, not_false_eq_true, true_or, or_true, and_self, and_assoc, Option.some.injEq, Sum.inl.injEq, Sum.inr.injEq, Prod.mk.injEq, Value.int.injEq, Value.ref.injEq, Value.long.injEq, true_and, and_true, exists_and_left, exists_and_right, exists_eq_left, exists_eq_left', List.getElem?_cons_zero, List.getElem?_cons_succ, List.length_cons, List.length_nil, List.set_cons_zero, List.set_cons_succ, Option.toList, List.cons_append, List.nil_append, List.append_nil, Nat.zero_add, Nat.le_refl, Nat.zero_le, beq_self_eq_true, Option.isNone_none]
theorem c_X10_back : mh_M E 1 0 0 yX10_back [.ref R] (hM h R A L F) (fun r h' => r = some (.int (cI (F 3 = 0) (-1000000002) (A 2 1))) ∧ h' = hM h R (cI (F 3 = 0) A (va_up A 1 (cpN (A 2) (A 1) 1452))) L F) := by
  refine m_X10_back [some (.ref R)] rfl (Nat.le_of_ble_eq_true rfl) ?_
  simp +decide only [q_X10_back_0, e_push, e_il, e_ll, e_al, e_is, e_ls, e_as, e_asN, e_inc, e_bin, e_un, e_div, e_i2l, e_l2i, e_binL, e_lneg, e_lcmp, e_dup, e_dup2, e_pop, e_if1, e_if2, e_ifnN, e_ifnR, e_sw, e_sw0, e_sw1, e_gi, e_gr, e_pi, e_pz, e_pr, e_ald, e_lald, e_aald, e_tald, e_alen, e_tlen, e_ast, e_last, e_aast, e_newa, e_newl, e_newq, e_new, e_oi, e_cv, e_cvS, e_ci, e_cs, e_pop0, e_popS, e_iret, e_zret, e_cret, e_bret, e_aret, e_aretN, e_vret, e_gs, e_ac, e_mm, e_ma, e_ldcs, e_gcs, e_gfm, e_gsV, e_gsC, e_bln, e_bld, mh_get, mh_set, mh_one, mh_two, Value.category, mh_po, mh_mc, mh_ms, mh_d, hM_0, hM_1, hM_2, hM_3, hM_4, hM_5, hM_6, hM_7, hM_8, hM_9, hM_10, hM_11, hM_12, hM_13, hM_14, hM_15, hM_16, hM_17, hM_18, hM_19, hM_20, hM_21, hM_22, hM_p1, hM_p2, hM_p3, hM_p4, hM_p5, hM_p6, hM_p7, hM_p8, hM_p9, hM_p10, hM_p11, hM_p12, hM_p13, hM_p14, hM_p15, hM_p16, hM_p17, hM_p18, hM_p19, hM_p20, hM_p21, hM_p22, hM_f3, hM_f7, hM_f8, hM_f9, hM_f10, hM_f11, hM_f12, hM_f13, hM_f17, hM_f18, hM_f20, hM_f33, false_implies, true_implies, implies_true, not_true_eq_false, not_false_eq_true, true_or, or_true, and_self, and_assoc, Option.some.injEq, Sum.inl.injEq, Sum.inr.injEq, Prod.mk.injEq, Value.int.injEq, Value.ref.injEq, Value.long.injEq, true_and, and_true, exists_and_left, exists_and_right, exists_eq_left, exists_eq_left', List.getElem?_cons_zero, List.getElem?_cons_succ, List.length_cons, List.length_nil, List.set_cons_zero, List.set_cons_succ, Option.toList, List.cons_append, List.nil_append, List.append_nil, Nat.zero_add, Nat.le_refl, Nat.zero_le, beq_self_eq_true, Option.isNone_none]
  refine ⟨fun e => mh_ex (c_X10_copyAll (by omega) hM_2 hM_1) (Nat.le_of_ble_eq_true rfl) (Nat.le_of_ble_eq_true rfl) (Nat.le_of_ble_eq_true rfl) (Nat.le_of_ble_eq_true rfl) ?_, fun e => ?_⟩
  · simp +decide only [e_push, e_il, e_ll, e_al, e_is, e_ls, e_as, e_asN, e_inc, e_bin, e_un, e_div, e_i2l, e_l2i, e_binL, e_lneg, e_lcmp, e_dup, e_dup2, e_pop, e_if1, e_if2, e_ifnN, e_ifnR, e_sw, e_sw0, e_sw1, e_gi, e_gr, e_pi, e_pz, e_pr, e_ald, e_lald, e_aald, e_tald, e_alen, e_tlen, e_ast, e_last, e_aast, e_newa, e_newl, e_newq, e_new, e_oi, e_cv, e_cvS, e_ci, e_cs, e_pop0, e_popS, e_iret, e_zret, e_cret, e_bret, e_aret, e_aretN, e_vret, e_gs, e_ac, e_mm, e_ma, e_ldcs, e_gcs, e_gfm, e_gsV, e_gsC, e_bln, e_bld, mh_get, mh_set, mh_one, mh_two, Value.category, mh_po, mh_mc, mh_ms, mh_d, hM_0, hM_1, hM_2, hM_3, hM_4, hM_5, hM_6, hM_7, hM_8, hM_9, hM_10, hM_11, hM_12, hM_13, hM_14, hM_15, hM_16, hM_17, hM_18, hM_19, hM_20, hM_21, hM_22, hM_p1, hM_p2, hM_p3, hM_p4, hM_p5, hM_p6, hM_p7, hM_p8, hM_p9, hM_p10, hM_p11, hM_p12, hM_p13, hM_p14, hM_p15, hM_p16, hM_p17, hM_p18, hM_p19, hM_p20, hM_p21, hM_p22, hM_f3, hM_f7, hM_f8, hM_f9, hM_f10, hM_f11, hM_f12, hM_f13, hM_f17, hM_f18, hM_f20, hM_f33, i_in_0, i_cl_0, i_in_1, i_cl_1, i_in_2, i_cl_2, i_in_3, i_cl_3, i_in_4, i_cl_4, i_in_5, i_cl_5, i_in_6, i_cl_6, i_in_7, i_cl_7, i_in_8, i_cl_8, i_in_9, i_cl_9, i_in_10, i_cl_10, i_in_11, i_cl_11, i_in_12, i_cl_12, i_in_13, i_cl_13, i_in_14, i_cl_14, i_in_15, i_cl_15, i_in_16, i_cl_16, i_in_17, i_cl_17, i_in_18, i_cl_18, i_in_19, i_cl_19, i_in_20, i_cl_20, i_in_21, i_cl_21, i_in_22, i_cl_22, i_in_23, i_cl_23, i_in_24, i_cl_24, i_in_25, i_cl_25, i_in_26, i_cl_26, i_in_27, i_cl_27, i_in_28, i_cl_28, i_in_29, i_cl_29, i_in_30, i_cl_30, i_in_31, i_cl_31, i_in_32, i_cl_32, i_in_33, i_cl_33, va_up_self, false_implies, true_implies, implies_true, not_true_eq_false, not_false_eq_true, true_or, or_true, and_self, and_assoc, Option.some.injEq, Sum.inl.injEq, Sum.inr.injEq, Prod.mk.injEq, Value.int.injEq, Value.ref.injEq, Value.long.injEq, true_and, and_true, exists_and_left, exists_and_right, exists_eq_left, exists_eq_left', List.getElem?_cons_zero, List.getElem?_cons_succ, List.length_cons, List.length_nil, List.set_cons_zero, List.set_cons_succ, Option.toList, List.cons_append, List.nil_append, List.append_nil, Nat.zero_add, Nat.le_refl, Nat.zero_le, beq_self_eq_true, Option.isNone_none]
    rw [cI_f e, cI_f e]
    exact ⟨by simp [cpN], rfl⟩
  · rw [cI_t (Classical.not_not.mp e), cI_t (Classical.not_not.mp e)]
    exact ⟨rfl, rfl⟩
/-- all are sent to SQUARES told by one number -/
def r_sa (N : Nat → Int32) (sq : Nat) : Nat → Nat → Int32
  | 0 => N
  | p + 1 => upd (r_sa N sq p) (8 + 2 * p) (nI (sq / 4 ^ (5 - p) % 4))
theorem i_sa : ∀ p, p < 6 → ∀ sq, sq < 4096 → mh_shr (nI sq) (2 * (5 - nI p)) &&& 3 = nI (sq / 4 ^ (5 - p) % 4) := by
  intro p hp sq hs
  have key : ∀ (s : Int32) (k j : Nat), ((s &&& 31).toBitVec.smod 32).toNat = k → 2 ^ k = 4 ^ j → mh_shr (nI sq) s &&& 3 = nI (sq / 4 ^ j % 4) := by
    intro s k j hk hj
    rw [mh_shr, pk_shrN (by omega) _ k hk, hj, pk_andN (Nat.lt_of_le_of_lt (Nat.div_le_self _ _) (by omega)) 2 (by decide)]
  match p, hp with
  | 0, _ => exact key _ 10 5 (by decide) (by decide)
  | 1, _ => exact key _ 8 4 (by decide) (by decide)
  | 2, _ => exact key _ 6 3 (by decide) (by decide)
  | 3, _ => exact key _ 4 2 (by decide) (by decide)
  | 4, _ => exact key _ 2 1 (by decide) (by decide)
  | 5, _ => exact key _ 0 0 (by decide) (by decide)
theorem l_X10_sendsAll {N : Nat → Int32} {sq : Nat} (hs : sq < 4096) {Post : Option Value → mh_H → Prop} (hpo : Post none (hM h R (va_up A 1 (r_sa N sq 6)) L F)) : ∀ (j k : Nat) (c : Int32), k + j = 6 → c = nI k → mh_G (x_X10_sendsAll E 0 0 0 Post) 2 [some (.ref R), some (.int (nI sq)), some (.int c)] [] (hM h R (va_up A 1 (r_sa N sq k)) L F) 0 0 := by
  intro j
  induction j with
  | zero =>
    intro k c hk hc
    have hk : k = 6 := hk
    subst hk hc
    refine b_X10_sendsAll_2 _ _ _ _ _ ?_
    simp +decide only [q_X10_sendsAll_2, e_push, e_il, e_ll, e_al, e_is, e_ls, e_as, e_asN, e_inc, e_bin, e_un, e_div, e_i2l, e_l2i, e_binL, e_lneg, e_lcmp, e_dup, e_dup2, e_pop, e_if1, e_if2, e_ifnN, e_ifnR, e_sw, e_sw0, e_sw1, e_gi, e_gr, e_pi, e_pz, e_pr, e_ald, e_lald, e_aald, e_tald, e_alen, e_tlen, e_ast, e_last, e_aast, e_newa, e_newl, e_newq, e_new, e_oi, e_cv, e_cvS, e_ci, e_cs, e_pop0, e_popS, e_iret, e_zret, e_cret, e_bret, e_aret, e_aretN, e_vret, e_gs, e_ac, e_mm, e_ma, e_ldcs, e_gcs, e_gfm, e_gsV, e_gsC, e_bln, e_bld, mh_get, mh_set, mh_one, mh_two, Value.category, mh_po, mh_mc, mh_ms, mh_d, false_implies, true_implies, implies_true, not_true_eq_false, not_false_eq_true, true_or, or_true, and_self, and_assoc, Option.some.injEq, Sum.inl.injEq, Sum.inr.injEq, Prod.mk.injEq, Value.int.injEq, Value.ref.injEq, Value.long.injEq, true_and, and_true, exists_and_left, exists_and_right, exists_eq_left, exists_eq_left', List.getElem?_cons_zero, List.getElem?_cons_succ, List.length_cons, List.length_nil, List.set_cons_zero, List.set_cons_succ, Option.toList, List.cons_append, List.nil_append, List.append_nil, Nat.zero_add, Nat.le_refl, Nat.zero_le, beq_self_eq_true, Option.isNone_none]
    exact hpo
  | succ j ih =>
    intro k c hk hc
    subst hc
    have hge : ¬ (6 : Int32) ≤ nI k := nI_ge (b := 6) (by omega) (by decide)
    have hv2 : vp_in (nI (8 + 2 * k)) 1452 := vp_in_nI (by omega) (by decide)
    have hcl : (nI (8 + 2 * k)).toNatClampNeg = 8 + 2 * k := nI_clamp (by omega)
    refine b_X10_sendsAll_2 _ _ _ _ _ ?_
    simp +decide only [q_X10_sendsAll_2, e_push, e_il, e_ll, e_al, e_is, e_ls, e_as, e_asN, e_inc, e_bin, e_un, e_div, e_i2l, e_l2i, e_binL, e_lneg, e_lcmp, e_dup, e_dup2, e_pop, e_if1, e_if2, e_ifnN, e_ifnR, e_sw, e_sw0, e_sw1, e_gi, e_gr, e_pi, e_pz, e_pr, e_ald, e_lald, e_aald, e_tald, e_alen, e_tlen, e_ast, e_last, e_aast, e_newa, e_newl, e_newq, e_new, e_oi, e_cv, e_cvS, e_ci, e_cs, e_pop0, e_popS, e_iret, e_zret, e_cret, e_bret, e_aret, e_aretN, e_vret, e_gs, e_ac, e_mm, e_ma, e_ldcs, e_gcs, e_gfm, e_gsV, e_gsC, e_bln, e_bld, mh_get, mh_set, mh_one, mh_two, Value.category, mh_po, mh_mc, mh_ms, mh_d, hM_0, hM_1, hM_2, hM_3, hM_4, hM_5, hM_6, hM_7, hM_8, hM_9, hM_10, hM_11, hM_12, hM_13, hM_14, hM_15, hM_16, hM_17, hM_18, hM_19, hM_20, hM_21, hM_22, hM_p1, hM_p2, hM_p3, hM_p4, hM_p5, hM_p6, hM_p7, hM_p8, hM_p9, hM_p10, hM_p11, hM_p12, hM_p13, hM_p14, hM_p15, hM_p16, hM_p17, hM_p18, hM_p19, hM_p20, hM_p21, hM_p22, hM_f3, hM_f7, hM_f8, hM_f9, hM_f10, hM_f11, hM_f12, hM_f13, hM_f17, hM_f18, hM_f20, hM_f33, hge, i_ps, hv2, hcl, va_up_self, bx_uu, i_sa k (show k < 6 by omega) sq hs, false_implies, true_implies, implies_true, not_true_eq_false, not_false_eq_true, true_or, or_true, and_self, and_assoc, Option.some.injEq, Sum.inl.injEq, Sum.inr.injEq, Prod.mk.injEq, Value.int.injEq, Value.ref.injEq, Value.long.injEq, true_and, and_true, exists_and_left, exists_and_right, exists_eq_left, exists_eq_left', List.getElem?_cons_zero, List.getElem?_cons_succ, List.length_cons, List.length_nil, List.set_cons_zero, List.set_cons_succ, Option.toList, List.cons_append, List.nil_append, List.append_nil, Nat.zero_add, Nat.le_refl, Nat.zero_le, beq_self_eq_true, Option.isNone_none]
    exact ih (k + 1) _ (by omega) (nI_succ k).symm
theorem c_X10_sendsAll {sq : Nat} (hs : sq < 4096) : mh_M E 0 0 0 yX10_sendsAll [.ref R, .int (nI sq)] (hM h R A L F) (fun r h' => r = none ∧ h' = hM h R (va_up A 1 (r_sa (A 1) sq 6)) L F) := by
  refine m_X10_sendsAll [some (.ref R), some (.int (nI sq)), none] rfl (Nat.le_of_ble_eq_true rfl) ?_
  simp +decide only [q_X10_sendsAll_0, e_push, e_il, e_ll, e_al, e_is, e_ls, e_as, e_asN, e_inc, e_bin, e_un, e_div, e_i2l, e_l2i, e_binL, e_lneg, e_lcmp, e_dup, e_dup2, e_pop, e_if1, e_if2, e_ifnN, e_ifnR, e_sw, e_sw0, e_sw1, e_gi, e_gr, e_pi, e_pz, e_pr, e_ald, e_lald, e_aald, e_tald, e_alen, e_tlen, e_ast, e_last, e_aast, e_newa, e_newl, e_newq, e_new, e_oi, e_cv, e_cvS, e_ci, e_cs, e_pop0, e_popS, e_iret, e_zret, e_cret, e_bret, e_aret, e_aretN, e_vret, e_gs, e_ac, e_mm, e_ma, e_ldcs, e_gcs, e_gfm, e_gsV, e_gsC, e_bln, e_bld, mh_get, mh_set, mh_one, mh_two, Value.category, mh_po, mh_mc, mh_ms, mh_d, false_implies, true_implies, implies_true, not_true_eq_false, not_false_eq_true, true_or, or_true, and_self, and_assoc, Option.some.injEq, Sum.inl.injEq, Sum.inr.injEq, Prod.mk.injEq, Value.int.injEq, Value.ref.injEq, Value.long.injEq, true_and, and_true, exists_and_left, exists_and_right, exists_eq_left, exists_eq_left', List.getElem?_cons_zero, List.getElem?_cons_succ, List.length_cons, List.length_nil, List.set_cons_zero, List.set_cons_succ, Option.toList, List.cons_append, List.nil_append, List.append_nil, Nat.zero_add, Nat.le_refl, Nat.zero_le, beq_self_eq_true, Option.isNone_none]
  have := l_X10_sendsAll (E := E) (h := h) (R := R) (A := A) (L := L) (F := F) (N := A 1) hs (Post := fun r h' => r = none ∧ h' = hM h R (va_up A 1 (r_sa (A 1) sq 6)) L F) ⟨rfl, rfl⟩ 6 0 0 (by decide) rfl
  rw [show r_sa (A 1) sq 0 = A 1 from rfl, up_id] at this
  exact this
end MOI
