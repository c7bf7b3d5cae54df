/-! PART 98.tphk: constructors: the class -/
def G0 : Nat → Nat → Int32 := fun i => if i = 0 then fun _ => 0 else if i < 21 then V0 (i - 1) else if i < 41 then V0 (i - 21) else if i < 61 then V0 (i - 41) else if i = 66 then (fun j => if j = 3 then -1 else if j = 4 then -1 else 0) else if i < 73 then (fun _ => 0) else if i < 81 then (if (i - 73) % 2 = 0 then (fun j => if j = 1 then -1 else 0) else fun _ => 0) else if (i - 81) % 4 = 1 then st0 else if (i - 81) % 4 = 2 then (fun j => if j = 1 then -1 else 0) else fun _ => 0
def Y0 : Nat → Nat → Option Nat := fun _ => X0
/-- a class with p Sheets and q Slots in its rows -/
def kAi (R p q j : Nat) : Option mh_C := if j = 69 then some (.inl (4, 4, .inr (.inr (.inr (.inr (fun x => if x < p then some (R + 73 + 2 * x) else none)))))) else if j = 70 then some (.inl (5, 5, .inr (.inr (.inr (.inr (fun x => if x < q then some (R + 81 + 4 * x) else none)))))) else kA R G0 Y0 j
section INK
variable {E : mh_E} {h : mh_H} {R : Nat}
theorem kAi_r0 {p q : Nat} : kAi R p q 0 = some (.inr (.inl (9, [.ref (R + 1), .ref (R + 21), .ref (R + 41), .ref (R + 61), .ref (R + 66), .ref (R + 69), .ref (R + 70), .ref (R + 71), .ref (R + 72), .int 0, .int 0]))) := rfl
theorem sh_row {i : Nat} : va_up (fun x => if x < i then some (R + 73 + 2 * x) else none) i (some (R + (73 + 2 * i))) = (fun x => if x < i + 1 then some (R + 73 + 2 * x) else none) := funext fun q => by
  by_cases eq : q = i
  · subst eq; rw [va_up_self, if_pos (by omega)]; congr 1; omega
  · rw [va_up_ne _ _ eq]
    by_cases el : q < i
    · rw [if_pos el, if_pos (by omega)]
    · rw [if_neg el, if_neg (by omega)]
theorem sl_row {i : Nat} : va_up (fun x => if x < i then some (R + 81 + 4 * x) else none) i (some (R + (81 + 4 * i))) = (fun x => if x < i + 1 then some (R + 81 + 4 * x) else none) := funext fun q => by
  by_cases eq : q = i
  · subst eq; rw [va_up_self, if_pos (by omega)]; congr 1; omega
  · rw [va_up_ne _ _ eq]
    by_cases el : q < i
    · rw [if_pos el, if_pos (by omega)]
    · rw [if_neg el, if_neg (by omega)]
theorem kAi_sh {i j : Nat} {c : mh_C} (hi : i < 4) (hj : j < 73 + 2 * i + 2) : va_up (jn (73 + 2 * i) (va_up (kAi R i 0) (73 + 2 * i) (some c)) (kS0 (R + (73 + 2 * i)))) 69 (some (.inl (4, 4, .inr (.inr (.inr (.inr (va_up (fun x => if x < i then some (R + 73 + 2 * x) else none) i (some (R + (73 + 2 * i)))))))))) j = kAi R (i + 1) 0 j := by
  by_cases e : j = 69
  · subst e
    rw [va_up_self, sh_row, kAi, if_pos rfl]
  · rw [va_up_ne _ _ e]
    by_cases el : j < 73 + 2 * i
    · rw [jn_lt el, va_up_ne _ _ (by omega), kAi, kAi, if_neg e, if_neg e]
    · rw [jn_ge (by omega), kAi, if_neg e, if_neg (by omega)]
      rcases (show i = 0 ∨ i = 1 ∨ i = 2 ∨ i = 3 by omega) with rfl | rfl | rfl | rfl
      · rcases (show j = 73 ∨ j = 74 by omega) with rfl | rfl <;> rfl
      · rcases (show j = 75 ∨ j = 76 by omega) with rfl | rfl <;> rfl
      · rcases (show j = 77 ∨ j = 78 by omega) with rfl | rfl <;> rfl
      · rcases (show j = 79 ∨ j = 80 by omega) with rfl | rfl <;> rfl
theorem kAi_sl {i j : Nat} {c : mh_C} (hi : i < 5) (hj : j < 81 + 4 * i + 4) : va_up (jn (81 + 4 * i) (va_up (kAi R 4 i) (81 + 4 * i) (some c)) (kSl0 (R + (81 + 4 * i)))) 70 (some (.inl (5, 5, .inr (.inr (.inr (.inr (va_up (fun x => if x < i then some (R + 81 + 4 * x) else none) i (some (R + (81 + 4 * i)))))))))) j = kAi R 4 (i + 1) j := by
  by_cases e : j = 70
  · subst e
    rw [va_up_self, sl_row, kAi, if_neg (by decide), if_pos rfl]
  · rw [va_up_ne _ _ e]
    by_cases el : j < 81 + 4 * i
    · rw [jn_lt el, va_up_ne _ _ (by omega), kAi, kAi, if_neg e, if_neg e]
    · rw [jn_ge (by omega), kAi, if_neg (by omega), if_neg e]
      rcases (show i = 0 ∨ i = 1 ∨ i = 2 ∨ i = 3 ∨ i = 4 by omega) with rfl | rfl | rfl | rfl | rfl
      · rcases (show j = 81 ∨ j = 82 ∨ j = 83 ∨ j = 84 by omega) with rfl | rfl | rfl | rfl <;> rfl
      · rcases (show j = 85 ∨ j = 86 ∨ j = 87 ∨ j = 88 by omega) with rfl | rfl | rfl | rfl <;> rfl
      · rcases (show j = 89 ∨ j = 90 ∨ j = 91 ∨ j = 92 by omega) with rfl | rfl | rfl | rfl <;> rfl
      · rcases (show j = 93 ∨ j = 94 ∨ j = 95 ∨ j = 96 by omega) with rfl | rfl | rfl | rfl <;> rfl
      · rcases (show j = 97 ∨ j = 98 ∨ j = 99 ∨ j = 100 by omega) with rfl | rfl | rfl | rfl <;> rfl
theorem l_X9_init129 {Po : Option Value → mh_H → Prop} (kk : Po none (gB h R 101 (kAi R 4 5))) : ∀ (r i : Nat), i + r = 5 → mh_G (x_X9_init E 3 100 1243 Po) 129 [some (.ref R), some (.int (nI i))] [] (gB h R (81 + 4 * i) (kAi R 4 i)) (80 + 4 * i) (1058 + 37 * i) := by
  intro r
  induction r with
  | zero =>
    intro i hi
    have e : i = 5 := by omega
    subst e
    refine b_X9_init_129 _ _ _ _ _ ?_
    have hge : (5 : Int32) ≤ nI 5 := Int32.le_refl _
    simp +decide only [e_push, e_il, e_ll, e_al, e_is, e_ls, e_as, e_asN, e_inc, e_bin, e_un, e_div, e_i2l, e_l2i, e_binL, e_lneg, e_lcmp, e_dup, e_dup2, e_pop, e_if1, e_if2, e_ifnN, e_ifnR, e_sw, e_sw0, e_sw1, e_gi, e_gr, e_pi, e_pz, e_pr, e_ald, e_lald, e_aald, e_tald, e_alen, e_tlen, e_ast, e_last, e_aast, e_newa, e_newl, e_newq, e_new, e_oi, e_cv, e_cvS, e_ci, e_cs, e_pop0, e_popS, e_iret, e_zret, e_cret, e_bret, e_aret, e_aretN, e_vret, e_gs, e_ac, e_mm, e_ma, e_ldcs, e_gcs, e_gfm, e_gsV, e_gsC, e_bln, e_bld, mh_get, mh_set, mh_one, mh_two, Value.category, mh_po, mh_mc, mh_ms, mh_d, q_X9_init_129, hge, false_implies, true_implies, implies_true, not_true_eq_false, not_false_eq_true, true_or, or_true, and_self, and_assoc, Option.some.injEq, Sum.inl.injEq, Sum.inr.injEq, Prod.mk.injEq, Value.int.injEq, Value.ref.injEq, Value.long.injEq, true_and, and_true, exists_and_left, exists_and_right, exists_eq_left, exists_eq_left', List.getElem?_cons_zero, List.getElem?_cons_succ, List.length_cons, List.length_nil, List.set_cons_zero, List.set_cons_succ, Option.toList, List.cons_append, List.nil_append, List.append_nil, Nat.zero_add, Nat.le_refl, Nat.zero_le, beq_self_eq_true, Option.isNone_none]
    exact kk
  | succ r ih =>
    intro i hi
    refine b_X9_init_129 _ _ _ _ _ ?_
    have hge : ¬ (5 : Int32) ≤ nI i := nI_ge (b := 5) (by omega) (by decide)
    have hv : vp_in (nI i) 5 := vp_in_nI (by omega) (by decide)
    have hcl : (nI i).toNatClampNeg = i := nI_clamp (by omega)
    have hr0 : (gB h R (81 + 4 * i) (kAi R 4 i)).2 R = some (.inr (.inl (9, [.ref (R + 1), .ref (R + 21), .ref (R + 41), .ref (R + 61), .ref (R + 66), .ref (R + 69), .ref (R + 70), .ref (R + 71), .ref (R + 72), .int 0, .int 0]))) := (gB_in0 (by omega)).trans rfl
    have key := ih (i + 1) (by omega)
    simp +decide only [e_push, e_il, e_ll, e_al, e_is, e_ls, e_as, e_asN, e_inc, e_bin, e_un, e_div, e_i2l, e_l2i, e_binL, e_lneg, e_lcmp, e_dup, e_dup2, e_pop, e_if1, e_if2, e_ifnN, e_ifnR, e_sw, e_sw0, e_sw1, e_gi, e_gr, e_pi, e_pz, e_pr, e_ald, e_lald, e_aald, e_tald, e_alen, e_tlen, e_ast, e_last, e_aast, e_newa, e_newl, e_newq, e_new, e_oi, e_cv, e_cvS, e_ci, e_cs, e_pop0, e_popS, e_iret, e_zret, e_cret, e_bret, e_aret, e_aretN, e_vret, e_gs, e_ac, e_mm, e_ma, e_ldcs, e_gcs, e_gfm, e_gsV, e_gsC, e_bln, e_bld, mh_get, mh_set, mh_one, mh_two, Value.category, mh_po, mh_mc, mh_ms, mh_d, q_X9_init_129, hge, hr0, false_implies, true_implies, implies_true, not_true_eq_false, not_false_eq_true, true_or, or_true, and_self, and_assoc, Option.some.injEq, Sum.inl.injEq, Sum.inr.injEq, Prod.mk.injEq, Value.int.injEq, Value.ref.injEq, Value.long.injEq, true_and, and_true, exists_and_left, exists_and_right, exists_eq_left, exists_eq_left', List.getElem?_cons_zero, List.getElem?_cons_succ, List.length_cons, List.length_nil, List.set_cons_zero, List.set_cons_succ, Option.toList, List.cons_append, List.nil_append, List.append_nil, Nat.zero_add, Nat.le_refl, Nat.zero_le, beq_self_eq_true, Option.isNone_none]
    refine ⟨by show 80 + 4 * i + 1 ≤ 100; omega, by show 1058 + 37 * i + 4 ≤ 1243; omega, ?_⟩
    rw [gB_1, gB_new]
    refine mh_en (c_X5_init (a := R + (81 + 4 * i)) rfl ((gB_in (by omega)).trans (va_up_self _ _ _))) (Nat.le_of_ble_eq_true rfl) (by show 80 + 4 * i + 1 + 3 ≤ 100; omega) (by show 1058 + 37 * i + 4 + 33 ≤ 1243; omega) (Nat.le_of_ble_eq_true rfl) ?_
    rw [gB_gB (by omega) (by omega)]
    simp +decide only [e_push, e_il, e_ll, e_al, e_is, e_ls, e_as, e_asN, e_inc, e_bin, e_un, e_div, e_i2l, e_l2i, e_binL, e_lneg, e_lcmp, e_dup, e_dup2, e_pop, e_if1, e_if2, e_ifnN, e_ifnR, e_sw, e_sw0, e_sw1, e_gi, e_gr, e_pi, e_pz, e_pr, e_ald, e_lald, e_aald, e_tald, e_alen, e_tlen, e_ast, e_last, e_aast, e_newa, e_newl, e_newq, e_new, e_oi, e_cv, e_cvS, e_ci, e_cs, e_pop0, e_popS, e_iret, e_zret, e_cret, e_bret, e_aret, e_aretN, e_vret, e_gs, e_ac, e_mm, e_ma, e_ldcs, e_gcs, e_gfm, e_gsV, e_gsC, e_bln, e_bld, mh_get, mh_set, mh_one, mh_two, Value.category, mh_po, mh_mc, mh_ms, mh_d, false_implies, true_implies, implies_true, not_true_eq_false, not_false_eq_true, true_or, or_true, and_self, and_assoc, Option.some.injEq, Sum.inl.injEq, Sum.inr.injEq, Prod.mk.injEq, Value.int.injEq, Value.ref.injEq, Value.long.injEq, true_and, and_true, exists_and_left, exists_and_right, exists_eq_left, exists_eq_left', List.getElem?_cons_zero, List.getElem?_cons_succ, List.length_cons, List.length_nil, List.set_cons_zero, List.set_cons_succ, Option.toList, List.cons_append, List.nil_append, List.append_nil, Nat.zero_add, Nat.le_refl, Nat.zero_le, beq_self_eq_true, Option.isNone_none]
    refine ⟨5, fun x => if x < i then some (R + 81 + 4 * x) else none, (gB_in (by omega)).trans (by rw [jn_lt (by omega), va_up_ne _ _ (by omega)]; rfl), ⟨_, (gB_in (by omega)).trans (by rw [jn_ge (by omega), Nat.sub_self]; rfl)⟩, hv, ?_⟩
    simp +decide only [e_push, e_il, e_ll, e_al, e_is, e_ls, e_as, e_asN, e_inc, e_bin, e_un, e_div, e_i2l, e_l2i, e_binL, e_lneg, e_lcmp, e_dup, e_dup2, e_pop, e_if1, e_if2, e_ifnN, e_ifnR, e_sw, e_sw0, e_sw1, e_gi, e_gr, e_pi, e_pz, e_pr, e_ald, e_lald, e_aald, e_tald, e_alen, e_tlen, e_ast, e_last, e_aast, e_newa, e_newl, e_newq, e_new, e_oi, e_cv, e_cvS, e_ci, e_cs, e_pop0, e_popS, e_iret, e_zret, e_cret, e_bret, e_aret, e_aretN, e_vret, e_gs, e_ac, e_mm, e_ma, e_ldcs, e_gcs, e_gfm, e_gsV, e_gsC, e_bln, e_bld, mh_get, mh_set, mh_one, mh_two, Value.category, mh_po, mh_mc, mh_ms, mh_d, hcl, nI_1, false_implies, true_implies, implies_true, not_true_eq_false, not_false_eq_true, true_or, or_true, and_self, and_assoc, Option.some.injEq, Sum.inl.injEq, Sum.inr.injEq, Prod.mk.injEq, Value.int.injEq, Value.ref.injEq, Value.long.injEq, true_and, and_true, exists_and_left, exists_and_right, exists_eq_left, exists_eq_left', List.getElem?_cons_zero, List.getElem?_cons_succ, List.length_cons, List.length_nil, List.set_cons_zero, List.set_cons_succ, Option.toList, List.cons_append, List.nil_append, List.append_nil, Nat.zero_add, Nat.le_refl, Nat.zero_le, beq_self_eq_true, Option.isNone_none]
    rw [gB_put (by omega), gB_ext (fun j hj => kAi_sl (by omega) hj)]
    exact key
theorem l_X9_init103 {Po : Option Value → mh_H → Prop} (kk : Po none (gB h R 101 (kAi R 4 5))) : ∀ (r i : Nat), i + r = 4 → mh_G (x_X9_init E 3 100 1243 Po) 103 [some (.ref R), some (.int (nI i))] [] (gB h R (73 + 2 * i) (kAi R i 0)) (72 + 2 * i) (950 + 27 * i) := by
  intro r
  induction r with
  | zero =>
    intro i hi
    have e : i = 4 := by omega
    subst e
    refine b_X9_init_103 _ _ _ _ _ ?_
    have hge : (4 : Int32) ≤ nI 4 := Int32.le_refl _
    simp +decide only [e_push, e_il, e_ll, e_al, e_is, e_ls, e_as, e_asN, e_inc, e_bin, e_un, e_div, e_i2l, e_l2i, e_binL, e_lneg, e_lcmp, e_dup, e_dup2, e_pop, e_if1, e_if2, e_ifnN, e_ifnR, e_sw, e_sw0, e_sw1, e_gi, e_gr, e_pi, e_pz, e_pr, e_ald, e_lald, e_aald, e_tald, e_alen, e_tlen, e_ast, e_last, e_aast, e_newa, e_newl, e_newq, e_new, e_oi, e_cv, e_cvS, e_ci, e_cs, e_pop0, e_popS, e_iret, e_zret, e_cret, e_bret, e_aret, e_aretN, e_vret, e_gs, e_ac, e_mm, e_ma, e_ldcs, e_gcs, e_gfm, e_gsV, e_gsC, e_bln, e_bld, mh_get, mh_set, mh_one, mh_two, Value.category, mh_po, mh_mc, mh_ms, mh_d, q_X9_init_103, hge, false_implies, true_implies, implies_true, not_true_eq_false, not_false_eq_true, true_or, or_true, and_self, and_assoc, Option.some.injEq, Sum.inl.injEq, Sum.inr.injEq, Prod.mk.injEq, Value.int.injEq, Value.ref.injEq, Value.long.injEq, true_and, and_true, exists_and_left, exists_and_right, exists_eq_left, exists_eq_left', List.getElem?_cons_zero, List.getElem?_cons_succ, List.length_cons, List.length_nil, List.set_cons_zero, List.set_cons_succ, Option.toList, List.cons_append, List.nil_append, List.append_nil, Nat.zero_add, Nat.le_refl, Nat.zero_le, beq_self_eq_true, Option.isNone_none]
    exact l_X9_init129 kk 5 0 rfl
  | succ r ih =>
    intro i hi
    refine b_X9_init_103 _ _ _ _ _ ?_
    have hge : ¬ (4 : Int32) ≤ nI i := nI_ge (b := 4) (by omega) (by decide)
    have hv : vp_in (nI i) 4 := vp_in_nI (by omega) (by decide)
    have hcl : (nI i).toNatClampNeg = i := nI_clamp (by omega)
    have hr0 : (gB h R (73 + 2 * i) (kAi R i 0)).2 R = some (.inr (.inl (9, [.ref (R + 1), .ref (R + 21), .ref (R + 41), .ref (R + 61), .ref (R + 66), .ref (R + 69), .ref (R + 70), .ref (R + 71), .ref (R + 72), .int 0, .int 0]))) := (gB_in0 (by omega)).trans rfl
    have key := ih (i + 1) (by omega)
    simp +decide only [e_push, e_il, e_ll, e_al, e_is, e_ls, e_as, e_asN, e_inc, e_bin, e_un, e_div, e_i2l, e_l2i, e_binL, e_lneg, e_lcmp, e_dup, e_dup2, e_pop, e_if1, e_if2, e_ifnN, e_ifnR, e_sw, e_sw0, e_sw1, e_gi, e_gr, e_pi, e_pz, e_pr, e_ald, e_lald, e_aald, e_tald, e_alen, e_tlen, e_ast, e_last, e_aast, e_newa, e_newl, e_newq, e_new, e_oi, e_cv, e_cvS, e_ci, e_cs, e_pop0, e_popS, e_iret, e_zret, e_cret, e_bret, e_aret, e_aretN, e_vret, e_gs, e_ac, e_mm, e_ma, e_ldcs, e_gcs, e_gfm, e_gsV, e_gsC, e_bln, e_bld, mh_get, mh_set, mh_one, mh_two, Value.category, mh_po, mh_mc, mh_ms, mh_d, q_X9_init_103, hge, hr0, false_implies, true_implies, implies_true, not_true_eq_false, not_false_eq_true, true_or, or_true, and_self, and_assoc, Option.some.injEq, Sum.inl.injEq, Sum.inr.injEq, Prod.mk.injEq, Value.int.injEq, Value.ref.injEq, Value.long.injEq, true_and, and_true, exists_and_left, exists_and_right, exists_eq_left, exists_eq_left', List.getElem?_cons_zero, List.getElem?_cons_succ, List.length_cons, List.length_nil, List.set_cons_zero, List.set_cons_succ, Option.toList, List.cons_append, List.nil_append, List.append_nil, Nat.zero_add, Nat.le_refl, Nat.zero_le, beq_self_eq_true, Option.isNone_none]
    refine ⟨by show 72 + 2 * i + 1 ≤ 100; omega, by show 950 + 27 * i + 3 ≤ 1243; omega, ?_⟩
    rw [gB_1, gB_new]
    refine mh_en (c_X4_init (a := R + (73 + 2 * i)) rfl ((gB_in (by omega)).trans (va_up_self _ _ _))) (Nat.le_of_ble_eq_true rfl) (by show 72 + 2 * i + 1 + 1 ≤ 100; omega) (by show 950 + 27 * i + 3 + 24 ≤ 1243; omega) (Nat.le_of_ble_eq_true rfl) ?_
    rw [gB_gB (by omega) (by omega)]
    simp +decide only [e_push, e_il, e_ll, e_al, e_is, e_ls, e_as, e_asN, e_inc, e_bin, e_un, e_div, e_i2l, e_l2i, e_binL, e_lneg, e_lcmp, e_dup, e_dup2, e_pop, e_if1, e_if2, e_ifnN, e_ifnR, e_sw, e_sw0, e_sw1, e_gi, e_gr, e_pi, e_pz, e_pr, e_ald, e_lald, e_aald, e_tald, e_alen, e_tlen, e_ast, e_last, e_aast, e_newa, e_newl, e_newq, e_new, e_oi, e_cv, e_cvS, e_ci, e_cs, e_pop0, e_popS, e_iret, e_zret, e_cret, e_bret, e_aret, e_aretN, e_vret, e_gs, e_ac, e_mm, e_ma, e_ldcs, e_gcs, e_gfm, e_gsV, e_gsC, e_bln, e_bld, mh_get, mh_set, mh_one, mh_two, Value.category, mh_po, mh_mc, mh_ms, mh_d, false_implies, true_implies, implies_true, not_true_eq_false, not_false_eq_true, true_or, or_true, and_self, and_assoc, Option.some.injEq, Sum.inl.injEq, Sum.inr.injEq, Prod.mk.injEq, Value.int.injEq, Value.ref.injEq, Value.long.injEq, true_and, and_true, exists_and_left, exists_and_right, exists_eq_left, exists_eq_left', List.getElem?_cons_zero, List.getElem?_cons_succ, List.length_cons, List.length_nil, List.set_cons_zero, List.set_cons_succ, Option.toList, List.cons_append, List.nil_append, List.append_nil, Nat.zero_add, Nat.le_refl, Nat.zero_le, beq_self_eq_true, Option.isNone_none]
    refine ⟨4, fun x => if x < i then some (R + 73 + 2 * x) else none, (gB_in (by omega)).trans (by rw [jn_lt (by omega), va_up_ne _ _ (by omega)]; rfl), ⟨_, (gB_in (by omega)).trans (by rw [jn_ge (by omega), Nat.sub_self]; rfl)⟩, hv, ?_⟩
    simp +decide only [e_push, e_il, e_ll, e_al, e_is, e_ls, e_as, e_asN, e_inc, e_bin, e_un, e_div, e_i2l, e_l2i, e_binL, e_lneg, e_lcmp, e_dup, e_dup2, e_pop, e_if1, e_if2, e_ifnN, e_ifnR, e_sw, e_sw0, e_sw1, e_gi, e_gr, e_pi, e_pz, e_pr, e_ald, e_lald, e_aald, e_tald, e_alen, e_tlen, e_ast, e_last, e_aast, e_newa, e_newl, e_newq, e_new, e_oi, e_cv, e_cvS, e_ci, e_cs, e_pop0, e_popS, e_iret, e_zret, e_cret, e_bret, e_aret, e_aretN, e_vret, e_gs, e_ac, e_mm, e_ma, e_ldcs, e_gcs, e_gfm, e_gsV, e_gsC, e_bln, e_bld, mh_get, mh_set, mh_one, mh_two, Value.category, mh_po, mh_mc, mh_ms, mh_d, hcl, nI_1, false_implies, true_implies, implies_true, not_true_eq_false, not_false_eq_true, true_or, or_true, and_self, and_assoc, Option.some.injEq, Sum.inl.injEq, Sum.inr.injEq, Prod.mk.injEq, Value.int.injEq, Value.ref.injEq, Value.long.injEq, true_and, and_true, exists_and_left, exists_and_right, exists_eq_left, exists_eq_left', List.getElem?_cons_zero, List.getElem?_cons_succ, List.length_cons, List.length_nil, List.set_cons_zero, List.set_cons_succ, Option.toList, List.cons_append, List.nil_append, List.append_nil, Nat.zero_add, Nat.le_refl, Nat.zero_le, beq_self_eq_true, Option.isNone_none]
    rw [gB_put (by omega), gB_ext (fun j hj => kAi_sh (by omega) hj)]
    exact key
theorem c_X9_init0 : mh_M E 3 100 1243 yX9_init [.ref R] (gB h R 1 (fun _ => some (.inr (.inl (9, [.null, .null, .null, .null, .null, .null, .null, .null, .null, .int 0, .int 0]))))) (fun r h' => r = none ∧ h' = gB h R 101 (kA R G0 Y0)) := by
  generalize hPo : (fun (r : Option Value) (h' : mh_H) => r = none ∧ h' = gB h R 101 (kA R G0 Y0)) = Po
  have fin : Po none (gB h R 101 (kAi R 4 5)) := by
    rw [← hPo]
    refine ⟨rfl, gB_ext fun i hi => ?_⟩
    by_cases e : i = 69
    · subst e; rfl
    · by_cases e2 : i = 70
      · subst e2; rfl
      · rw [kAi, if_neg e, if_neg e2]
  have lp := l_X9_init103 (E := E) (h := h) (R := R) fin 4 0 rfl
  refine m_X9_init [some (.ref R), none] rfl (Nat.le_of_ble_eq_true rfl) ?_
  simp +decide only [e_push, e_il, e_ll, e_al, e_is, e_ls, e_as, e_asN, e_inc, e_bin, e_un, e_div, e_i2l, e_l2i, e_binL, e_lneg, e_lcmp, e_dup, e_dup2, e_pop, e_if1, e_if2, e_ifnN, e_ifnR, e_sw, e_sw0, e_sw1, e_gi, e_gr, e_pi, e_pz, e_pr, e_ald, e_lald, e_aald, e_tald, e_alen, e_tlen, e_ast, e_last, e_aast, e_new, e_oi, e_cv, e_cvS, e_ci, e_cs, e_pop0, e_popS, e_iret, e_zret, e_cret, e_bret, e_aret, e_aretN, e_vret, e_gs, e_ac, e_mm, e_ma, e_ldcs, e_gcs, e_gfm, e_gsV, e_gsC, e_bln, e_bld, mh_get, mh_set, mh_one, mh_two, Value.category, mh_po, mh_mc, mh_ms, mh_d, gB_1, gB_new, gB_put, gB_put0, gB_in, gB_in0, gB_gB, jn_lt, jn_ge, va_up_self, va_up_ne, i_in_0, i_cl_0, i_in_1, i_cl_1, i_in_2, i_cl_2, i_in_3, i_cl_3, i_in_4, i_cl_4, i_in_5, i_cl_5, i_in_6, i_cl_6, i_in_7, i_cl_7, i_in_8, i_cl_8, i_in_9, i_cl_9, i_in_10, i_cl_10, i_in_11, i_cl_11, i_in_12, i_cl_12, i_in_13, i_cl_13, i_in_14, i_cl_14, i_in_15, i_cl_15, i_in_16, i_cl_16, i_in_17, i_cl_17, i_in_18, i_cl_18, i_in_19, i_cl_19, i_in_20, i_cl_20, i_in_21, i_cl_21, i_in_22, i_cl_22, i_in_23, i_cl_23, i_in_24, i_cl_24, i_in_25, i_cl_25, i_in_26, i_cl_26, i_in_27, i_cl_27, i_in_28, i_cl_28, i_in_29, i_cl_29, i_in_30, i_cl_30, i_in_31, i_cl_31, i_in_32, i_cl_32, i_in_33, i_cl_33, q_X9_init_0, false_implies, true_implies, implies_true, not_true_eq_false, not_false_eq_true, true_or, or_true, and_self, and_assoc, Option.some.injEq, Sum.inl.injEq, Sum.inr.injEq, Prod.mk.injEq, Value.int.injEq, Value.ref.injEq, Value.long.injEq, true_and, and_true, exists_and_left, exists_and_right, exists_eq_left, exists_eq_left', List.getElem?_cons_zero, List.getElem?_cons_succ, List.length_cons, List.length_nil, List.set_cons_zero, List.set_cons_succ, Option.toList, List.cons_append, List.nil_append, List.append_nil, Nat.zero_add, Nat.le_refl, Nat.zero_le, beq_self_eq_true, Option.isNone_none]
  refine mh_en (c_X0_init (b := R + 1) rfl ((gB_in (by decide)).trans rfl)) (Nat.le_of_ble_eq_true rfl) (Nat.le_of_ble_eq_true rfl) (Nat.le_of_ble_eq_true rfl) (Nat.le_of_ble_eq_true rfl) ?_
  simp +decide only [e_push, e_il, e_ll, e_al, e_is, e_ls, e_as, e_asN, e_inc, e_bin, e_un, e_div, e_i2l, e_l2i, e_binL, e_lneg, e_lcmp, e_dup, e_dup2, e_pop, e_if1, e_if2, e_ifnN, e_ifnR, e_sw, e_sw0, e_sw1, e_gi, e_gr, e_pi, e_pz, e_pr, e_ald, e_lald, e_aald, e_tald, e_alen, e_tlen, e_ast, e_last, e_aast, e_new, e_oi, e_cv, e_cvS, e_ci, e_cs, e_pop0, e_popS, e_iret, e_zret, e_cret, e_bret, e_aret, e_aretN, e_vret, e_gs, e_ac, e_mm, e_ma, e_ldcs, e_gcs, e_gfm, e_gsV, e_gsC, e_bln, e_bld, mh_get, mh_set, mh_one, mh_two, Value.category, mh_po, mh_mc, mh_ms, mh_d, gB_1, gB_new, gB_put, gB_put0, gB_in, gB_in0, gB_gB, jn_lt, jn_ge, va_up_self, va_up_ne, i_in_0, i_cl_0, i_in_1, i_cl_1, i_in_2, i_cl_2, i_in_3, i_cl_3, i_in_4, i_cl_4, i_in_5, i_cl_5, i_in_6, i_cl_6, i_in_7, i_cl_7, i_in_8, i_cl_8, i_in_9, i_cl_9, i_in_10, i_cl_10, i_in_11, i_cl_11, i_in_12, i_cl_12, i_in_13, i_cl_13, i_in_14, i_cl_14, i_in_15, i_cl_15, i_in_16, i_cl_16, i_in_17, i_cl_17, i_in_18, i_cl_18, i_in_19, i_cl_19, i_in_20, i_cl_20, i_in_21, i_cl_21, i_in_22, i_cl_22, i_in_23, i_cl_23, i_in_24, i_cl_24, i_in_25, i_cl_25, i_in_26, i_cl_26, i_in_27, i_cl_27, i_in_28, i_cl_28, i_in_29, i_cl_29, i_in_30, i_cl_30, i_in_31, i_cl_31, i_in_32, i_cl_32, i_in_33, i_cl_33, false_implies, true_implies, implies_true, not_true_eq_false, not_false_eq_true, true_or, or_true, and_self, and_assoc, Option.some.injEq, Sum.inl.injEq, Sum.inr.injEq, Prod.mk.injEq, Value.int.injEq, Value.ref.injEq, Value.long.injEq, true_and, and_true, exists_and_left, exists_and_right, exists_eq_left, exists_eq_left', List.getElem?_cons_zero, List.getElem?_cons_succ, List.length_cons, List.length_nil, List.set_cons_zero, List.set_cons_succ, Option.toList, List.cons_append, List.nil_append, List.append_nil, Nat.zero_add, Nat.le_refl, Nat.zero_le, beq_self_eq_true, Option.isNone_none]
  refine mh_en (c_X0_init (b := R + 21) rfl ((gB_in (by decide)).trans rfl)) (Nat.le_of_ble_eq_true rfl) (Nat.le_of_ble_eq_true rfl) (Nat.le_of_ble_eq_true rfl) (Nat.le_of_ble_eq_true rfl) ?_
  simp +decide only [e_push, e_il, e_ll, e_al, e_is, e_ls, e_as, e_asN, e_inc, e_bin, e_un, e_div, e_i2l, e_l2i, e_binL, e_lneg, e_lcmp, e_dup, e_dup2, e_pop, e_if1, e_if2, e_ifnN, e_ifnR, e_sw, e_sw0, e_sw1, e_gi, e_gr, e_pi, e_pz, e_pr, e_ald, e_lald, e_aald, e_tald, e_alen, e_tlen, e_ast, e_last, e_aast, e_new, e_oi, e_cv, e_cvS, e_ci, e_cs, e_pop0, e_popS, e_iret, e_zret, e_cret, e_bret, e_aret, e_aretN, e_vret, e_gs, e_ac, e_mm, e_ma, e_ldcs, e_gcs, e_gfm, e_gsV, e_gsC, e_bln, e_bld, mh_get, mh_set, mh_one, mh_two, Value.category, mh_po, mh_mc, mh_ms, mh_d, gB_1, gB_new, gB_put, gB_put0, gB_in, gB_in0, gB_gB, jn_lt, jn_ge, va_up_self, va_up_ne, i_in_0, i_cl_0, i_in_1, i_cl_1, i_in_2, i_cl_2, i_in_3, i_cl_3, i_in_4, i_cl_4, i_in_5, i_cl_5, i_in_6, i_cl_6, i_in_7, i_cl_7, i_in_8, i_cl_8, i_in_9, i_cl_9, i_in_10, i_cl_10, i_in_11, i_cl_11, i_in_12, i_cl_12, i_in_13, i_cl_13, i_in_14, i_cl_14, i_in_15, i_cl_15, i_in_16, i_cl_16, i_in_17, i_cl_17, i_in_18, i_cl_18, i_in_19, i_cl_19, i_in_20, i_cl_20, i_in_21, i_cl_21, i_in_22, i_cl_22, i_in_23, i_cl_23, i_in_24, i_cl_24, i_in_25, i_cl_25, i_in_26, i_cl_26, i_in_27, i_cl_27, i_in_28, i_cl_28, i_in_29, i_cl_29, i_in_30, i_cl_30, i_in_31, i_cl_31, i_in_32, i_cl_32, i_in_33, i_cl_33, false_implies, true_implies, implies_true, not_true_eq_false, not_false_eq_true, true_or, or_true, and_self, and_assoc, Option.some.injEq, Sum.inl.injEq, Sum.inr.injEq, Prod.mk.injEq, Value.int.injEq, Value.ref.injEq, Value.long.injEq, true_and, and_true, exists_and_left, exists_and_right, exists_eq_left, exists_eq_left', List.getElem?_cons_zero, List.getElem?_cons_succ, List.length_cons, List.length_nil, List.set_cons_zero, List.set_cons_succ, Option.toList, List.cons_append, List.nil_append, List.append_nil, Nat.zero_add, Nat.le_refl, Nat.zero_le, beq_self_eq_true, Option.isNone_none]
  refine mh_en (c_X0_init (b := R + 41) rfl ((gB_in (by decide)).trans rfl)) (Nat.le_of_ble_eq_true rfl) (Nat.le_of_ble_eq_true rfl) (Nat.le_of_ble_eq_true rfl) (Nat.le_of_ble_eq_true rfl) ?_
  simp +decide only [e_push, e_il, e_ll, e_al, e_is, e_ls, e_as, e_asN, e_inc, e_bin, e_un, e_div, e_i2l, e_l2i, e_binL, e_lneg, e_lcmp, e_dup, e_dup2, e_pop, e_if1, e_if2, e_ifnN, e_ifnR, e_sw, e_sw0, e_sw1, e_gi, e_gr, e_pi, e_pz, e_pr, e_ald, e_lald, e_aald, e_tald, e_alen, e_tlen, e_ast, e_last, e_aast, e_new, e_oi, e_cv, e_cvS, e_ci, e_cs, e_pop0, e_popS, e_iret, e_zret, e_cret, e_bret, e_aret, e_aretN, e_vret, e_gs, e_ac, e_mm, e_ma, e_ldcs, e_gcs, e_gfm, e_gsV, e_gsC, e_bln, e_bld, mh_get, mh_set, mh_one, mh_two, Value.category, mh_po, mh_mc, mh_ms, mh_d, gB_1, gB_new, gB_put, gB_put0, gB_in, gB_in0, gB_gB, jn_lt, jn_ge, va_up_self, va_up_ne, i_in_0, i_cl_0, i_in_1, i_cl_1, i_in_2, i_cl_2, i_in_3, i_cl_3, i_in_4, i_cl_4, i_in_5, i_cl_5, i_in_6, i_cl_6, i_in_7, i_cl_7, i_in_8, i_cl_8, i_in_9, i_cl_9, i_in_10, i_cl_10, i_in_11, i_cl_11, i_in_12, i_cl_12, i_in_13, i_cl_13, i_in_14, i_cl_14, i_in_15, i_cl_15, i_in_16, i_cl_16, i_in_17, i_cl_17, i_in_18, i_cl_18, i_in_19, i_cl_19, i_in_20, i_cl_20, i_in_21, i_cl_21, i_in_22, i_cl_22, i_in_23, i_cl_23, i_in_24, i_cl_24, i_in_25, i_cl_25, i_in_26, i_cl_26, i_in_27, i_cl_27, i_in_28, i_cl_28, i_in_29, i_cl_29, i_in_30, i_cl_30, i_in_31, i_cl_31, i_in_32, i_cl_32, i_in_33, i_cl_33, false_implies, true_implies, implies_true, not_true_eq_false, not_false_eq_true, true_or, or_true, and_self, and_assoc, Option.some.injEq, Sum.inl.injEq, Sum.inr.injEq, Prod.mk.injEq, Value.int.injEq, Value.ref.injEq, Value.long.injEq, true_and, and_true, exists_and_left, exists_and_right, exists_eq_left, exists_eq_left', List.getElem?_cons_zero, List.getElem?_cons_succ, List.length_cons, List.length_nil, List.set_cons_zero, List.set_cons_succ, Option.toList, List.cons_append, List.nil_append, List.append_nil, Nat.zero_add, Nat.le_refl, Nat.zero_le, beq_self_eq_true, Option.isNone_none]
  refine mh_en (c_X1_init (a := R + 61) rfl ((gB_in (by decide)).trans rfl)) (Nat.le_of_ble_eq_true rfl) (Nat.le_of_ble_eq_true rfl) (Nat.le_of_ble_eq_true rfl) (Nat.le_of_ble_eq_true rfl) ?_
  simp +decide only [e_push, e_il, e_ll, e_al, e_is, e_ls, e_as, e_asN, e_inc, e_bin, e_un, e_div, e_i2l, e_l2i, e_binL, e_lneg, e_lcmp, e_dup, e_dup2, e_pop, e_if1, e_if2, e_ifnN, e_ifnR, e_sw, e_sw0, e_sw1, e_gi, e_gr, e_pi, e_pz, e_pr, e_ald, e_lald, e_aald, e_tald, e_alen, e_tlen, e_ast, e_last, e_aast, e_new, e_oi, e_cv, e_cvS, e_ci, e_cs, e_pop0, e_popS, e_iret, e_zret, e_cret, e_bret, e_aret, e_aretN, e_vret, e_gs, e_ac, e_mm, e_ma, e_ldcs, e_gcs, e_gfm, e_gsV, e_gsC, e_bln, e_bld, mh_get, mh_set, mh_one, mh_two, Value.category, mh_po, mh_mc, mh_ms, mh_d, gB_1, gB_new, gB_put, gB_put0, gB_in, gB_in0, gB_gB, jn_lt, jn_ge, va_up_self, va_up_ne, i_in_0, i_cl_0, i_in_1, i_cl_1, i_in_2, i_cl_2, i_in_3, i_cl_3, i_in_4, i_cl_4, i_in_5, i_cl_5, i_in_6, i_cl_6, i_in_7, i_cl_7, i_in_8, i_cl_8, i_in_9, i_cl_9, i_in_10, i_cl_10, i_in_11, i_cl_11, i_in_12, i_cl_12, i_in_13, i_cl_13, i_in_14, i_cl_14, i_in_15, i_cl_15, i_in_16, i_cl_16, i_in_17, i_cl_17, i_in_18, i_cl_18, i_in_19, i_cl_19, i_in_20, i_cl_20, i_in_21, i_cl_21, i_in_22, i_cl_22, i_in_23, i_cl_23, i_in_24, i_cl_24, i_in_25, i_cl_25, i_in_26, i_cl_26, i_in_27, i_cl_27, i_in_28, i_cl_28, i_in_29, i_cl_29, i_in_30, i_cl_30, i_in_31, i_cl_31, i_in_32, i_cl_32, i_in_33, i_cl_33, false_implies, true_implies, implies_true, not_true_eq_false, not_false_eq_true, true_or, or_true, and_self, and_assoc, Option.some.injEq, Sum.inl.injEq, Sum.inr.injEq, Prod.mk.injEq, Value.int.injEq, Value.ref.injEq, Value.long.injEq, true_and, and_true, exists_and_left, exists_and_right, exists_eq_left, exists_eq_left', List.getElem?_cons_zero, List.getElem?_cons_succ, List.length_cons, List.length_nil, List.set_cons_zero, List.set_cons_succ, Option.toList, List.cons_append, List.nil_append, List.append_nil, Nat.zero_add, Nat.le_refl, Nat.zero_le, beq_self_eq_true, Option.isNone_none]
  refine mh_en (c_X7_init (a := R + 66) rfl ((gB_in (by decide)).trans rfl)) (Nat.le_of_ble_eq_true rfl) (Nat.le_of_ble_eq_true rfl) (Nat.le_of_ble_eq_true rfl) (Nat.le_of_ble_eq_true rfl) ?_
  simp +decide only [e_push, e_il, e_ll, e_al, e_is, e_ls, e_as, e_asN, e_inc, e_bin, e_un, e_div, e_i2l, e_l2i, e_binL, e_lneg, e_lcmp, e_dup, e_dup2, e_pop, e_if1, e_if2, e_ifnN, e_ifnR, e_sw, e_sw0, e_sw1, e_gi, e_gr, e_pi, e_pz, e_pr, e_ald, e_lald, e_aald, e_tald, e_alen, e_tlen, e_ast, e_last, e_aast, e_new, e_oi, e_cv, e_cvS, e_ci, e_cs, e_pop0, e_popS, e_iret, e_zret, e_cret, e_bret, e_aret, e_aretN, e_vret, e_gs, e_ac, e_mm, e_ma, e_ldcs, e_gcs, e_gfm, e_gsV, e_gsC, e_bln, e_bld, mh_get, mh_set, mh_one, mh_two, Value.category, mh_po, mh_mc, mh_ms, mh_d, gB_1, gB_new, gB_put, gB_put0, gB_in, gB_in0, gB_gB, jn_lt, jn_ge, va_up_self, va_up_ne, i_in_0, i_cl_0, i_in_1, i_cl_1, i_in_2, i_cl_2, i_in_3, i_cl_3, i_in_4, i_cl_4, i_in_5, i_cl_5, i_in_6, i_cl_6, i_in_7, i_cl_7, i_in_8, i_cl_8, i_in_9, i_cl_9, i_in_10, i_cl_10, i_in_11, i_cl_11, i_in_12, i_cl_12, i_in_13, i_cl_13, i_in_14, i_cl_14, i_in_15, i_cl_15, i_in_16, i_cl_16, i_in_17, i_cl_17, i_in_18, i_cl_18, i_in_19, i_cl_19, i_in_20, i_cl_20, i_in_21, i_cl_21, i_in_22, i_cl_22, i_in_23, i_cl_23, i_in_24, i_cl_24, i_in_25, i_cl_25, i_in_26, i_cl_26, i_in_27, i_cl_27, i_in_28, i_cl_28, i_in_29, i_cl_29, i_in_30, i_cl_30, i_in_31, i_cl_31, i_in_32, i_cl_32, i_in_33, i_cl_33, e_nqL (c := 4) (M := 4) rfl (by decide), e_nqL (c := 5) (M := 5) rfl (by decide), e_naL (c := 60) (M := 60) rfl (by decide), e_naL (c := 10) (M := 10) rfl (by decide), false_implies, true_implies, implies_true, not_true_eq_false, not_false_eq_true, true_or, or_true, and_self, and_assoc, Option.some.injEq, Sum.inl.injEq, Sum.inr.injEq, Prod.mk.injEq, Value.int.injEq, Value.ref.injEq, Value.long.injEq, true_and, and_true, exists_and_left, exists_and_right, exists_eq_left, exists_eq_left', List.getElem?_cons_zero, List.getElem?_cons_succ, List.length_cons, List.length_nil, List.set_cons_zero, List.set_cons_succ, Option.toList, List.cons_append, List.nil_append, List.append_nil, Nat.zero_add, Nat.le_refl, Nat.zero_le, beq_self_eq_true, Option.isNone_none]
  refine cast ?_ lp
  congr 1
  refine gB_ext fun i hi => ?_
  match i, hi with
  | 0, _ => rfl
  | 1, _ => rfl
  | 2, _ => rfl
  | 3, _ => rfl
  | 4, _ => rfl
  | 5, _ => rfl
  | 6, _ => rfl
  | 7, _ => rfl
  | 8, _ => rfl
  | 9, _ => rfl
  | 10, _ => rfl
  | 11, _ => rfl
  | 12, _ => rfl
  | 13, _ => rfl
  | 14, _ => rfl
  | 15, _ => rfl
  | 16, _ => rfl
  | 17, _ => rfl
  | 18, _ => rfl
  | 19, _ => rfl
  | 20, _ => rfl
  | 21, _ => rfl
  | 22, _ => rfl
  | 23, _ => rfl
  | 24, _ => rfl
  | 25, _ => rfl
  | 26, _ => rfl
  | 27, _ => rfl
  | 28, _ => rfl
  | 29, _ => rfl
  | 30, _ => rfl
  | 31, _ => rfl
  | 32, _ => rfl
  | 33, _ => rfl
  | 34, _ => rfl
  | 35, _ => rfl
  | 36, _ => rfl
  | 37, _ => rfl
  | 38, _ => rfl
  | 39, _ => rfl
  | 40, _ => rfl
  | 41, _ => rfl
  | 42, _ => rfl
  | 43, _ => rfl
  | 44, _ => rfl
  | 45, _ => rfl
  | 46, _ => rfl
  | 47, _ => rfl
  | 48, _ => rfl
  | 49, _ => rfl
  | 50, _ => rfl
  | 51, _ => rfl
  | 52, _ => rfl
  | 53, _ => rfl
  | 54, _ => rfl
  | 55, _ => rfl
  | 56, _ => rfl
  | 57, _ => rfl
  | 58, _ => rfl
  | 59, _ => rfl
  | 60, _ => rfl
  | 61, _ => rfl
  | 62, _ => rfl
  | 63, _ => rfl
  | 64, _ => rfl
  | 65, _ => rfl
  | 66, _ => rfl
  | 67, _ => rfl
  | 68, _ => rfl
  | 69, _ => rfl
  | 70, _ => rfl
  | 71, _ => rfl
  | 72, _ => rfl
  | j + 73, hj => exact absurd hj (by omega)
theorem c_X9_init (hs : h.1 = R + 1) (ha : h.2 R = some (.inr (.inl (9, [.null, .null, .null, .null, .null, .null, .null, .null, .null, .int 0, .int 0])))) : mh_M E 3 100 1243 yX9_init [.ref R] h (fun r h' => r = none ∧ h' = gB h R 101 (kA R G0 Y0)) := by
  have := c_X9_init0 (E := E) (h := h) (R := R)
  rwa [gB_of hs ha] at this
end INK
