/-! PART 98.tphf: a Text is made -/
section NW
variable {h : mh_H} {a q : Nat} {c d : mh_C}
theorem mh_new_self : (mh_new h c).2 h.1 = some c := by simp [mh_new]
theorem mh_new_ne (hq : ¬ q = h.1) : (mh_new h c).2 q = h.2 q := by simp [mh_new, hq]
theorem mh_new_1 : (mh_new h c).1 = h.1 + 1 := rfl
theorem mh_put_1 : (mh_put h a c).1 = h.1 := rfl
theorem mh_new_put : mh_put (mh_new h c) h.1 d = mh_new h d := by
  refine Prod.ext rfl (funext fun q => ?_)
  by_cases e : q = h.1
  · simp [mh_put, mh_new, e]
  · simp [mh_put, mh_new, e]
theorem mh_np {c' : mh_C} : mh_put (mh_new (mh_put h a c) d) a c' = mh_put (mh_new h d) a c' := by
  refine Prod.ext rfl (funext fun q => ?_)
  by_cases e : q = a
  · simp [mh_put, e]
  · by_cases e2 : q = h.1
    · simp [mh_put, mh_new, e2]
    · simp [mh_put, mh_new, e, e2]
end NW
/-- three more cells: a Text, its steps, its stack -/
def hN3 (h : mh_H) (k0 lv : Int32) (m : Nat) (f : Nat → Int32) : mh_H := (h.1 + 3, fun q => if q = h.1 then some (.inr (.inl (8, [.int k0, .int lv, .ref (h.1 + 1), .ref (h.1 + 2), .int 0]))) else if q = h.1 + 1 then some (.inl (0, m, .inl f)) else if q = h.1 + 2 then some (.inl (0, m, .inl (fun _ => 0))) else h.2 q)
theorem hN3_lt {h : mh_H} {k0 lv : Int32} {m q : Nat} {f : Nat → Int32} (hq : q < h.1) : (hN3 h k0 lv m f).2 q = h.2 q := by
  simp only [hN3, show ¬ q = h.1 by omega, show ¬ q = h.1 + 1 by omega, show ¬ q = h.1 + 2 by omega, if_false]
theorem hN3_ov {h : mh_H} {k0 lv : Int32} {m b n : Nat} {f : Nat → Int32} {B : Nat → Option mh_C} (hb : b + n ≤ h.1) : hN3 (ov h b n B) k0 lv m f = ov (hN3 h k0 lv m f) b n B := by
  refine Prod.ext rfl (funext fun q => ?_)
  by_cases e : b ≤ q ∧ q < b + n
  · have n1 : ¬ q = h.1 := by omega
    have n2 : ¬ q = h.1 + 1 := by omega
    have n3 : ¬ q = h.1 + 2 := by omega
    simp only [hN3, ov, n1, n2, n3, e, and_self, if_true, if_false]
  · simp only [hN3, ov, e, if_false]
theorem hN3_tX {D : tDT} {lo m : Nat} {h : mh_H} {k0 lv : Int32} {f : Nat → Int32} (hT : tX D lo h) : tX D lo (hN3 h k0 lv m f) := fun a d hD => by
  obtain ⟨q1, q2, q3, q4, ht, g, q5, q6, q7⟩ := hT a d hD
  exact ⟨q1, by show a + 3 ≤ h.1 + 3; omega, q3, q4, ht, g, by rw [hN3_lt (by omega)]; exact q5, by rw [hN3_lt (by omega)]; exact q6, by rw [hN3_lt (by omega)]; exact q7⟩
/-- a TEXT more -/
def dNw (D : tDT) (a : Nat) (d : Int32 × Int32 × Nat × (Nat → Int32)) : tDT := fun q => if q = a then some d else if q = a + 1 ∨ q = a + 2 then none else D q
theorem dNw_le {D : tDT} {lo a' : Nat} {h : mh_H} {d d' : Int32 × Int32 × Nat × (Nat → Int32)} (hT : tX D lo h) (hD : D a' = some d') : dNw D h.1 d a' = some d' := by
  obtain ⟨q1, q2, -⟩ := hT a' d' hD
  rw [dNw, if_neg (by omega), if_neg (by omega)]; exact hD
theorem dNw_tX {D : tDT} {lo m : Nat} {h : mh_H} {k0 lv : Int32} {f : Nat → Int32} (hT : tX D lo h) (hlo : lo ≤ h.1) : tX (dNw D h.1 (k0, lv, m, f)) lo (hN3 h k0 lv m f) := fun a d hD => by
  by_cases e : a = h.1
  · subst e
    rw [dNw, if_pos rfl] at hD
    cases hD
    refine ⟨hlo, Nat.le_refl _, ?_, ?_, 0, fun _ => 0, ?_, ?_, ?_⟩
    · rw [dNw, if_neg (by omega), if_pos (Or.inl rfl)]
    · rw [dNw, if_neg (by omega), if_pos (Or.inr rfl)]
    · simp [hN3]
    · simp [hN3]
    · simp [hN3]
  · rw [dNw, if_neg e] at hD
    by_cases e2 : a = h.1 + 1 ∨ a = h.1 + 2
    · rw [if_pos e2] at hD; cases hD
    · rw [if_neg e2] at hD
      obtain ⟨q1, q2, q3, q4, ht, g, q5, q6, q7⟩ := hT a d hD
      refine ⟨q1, by show a + 3 ≤ h.1 + 3; omega, ?_, ?_, ht, g, by rw [hN3_lt (by omega)]; exact q5, by rw [hN3_lt (by omega)]; exact q6, by rw [hN3_lt (by omega)]; exact q7⟩
      · rw [dNw, if_neg (by omega), if_neg (by omega)]; exact q3
      · rw [dNw, if_neg (by omega), if_neg (by omega)]; exact q4
section TPN
variable {E : mh_E} {R : Nat} {v w x : Int32} {h H : mh_H} {G : Nat → Nat → Int32} {Y : Nat → Nat → Option Nat} {t st g f : Nat → Int32} {n k a b key m : Nat}
theorem c_J7_copyOf (hb : H.2 b = some (.inl (0, 96, .inl f))) (hlt : b < H.1) (hm : m < 96) : mh_M E 1 1 96 yJ7_copyOf_59c91 [.ref b, .int (nI m)] H (fun r h' => r = some (.ref H.1) ∧ h' = mh_new H (.inl (0, m, .inl (va_cpy f (fun _ => 0) 0 0 m)))) := by
  have hne : ¬ nI m = 96 := fun z => by have := (nI_eq (b := 96) (by omega) (by decide)).mp z; omega
  have hmin : nI m < 96 := (nI_ltI (b := 96) (by omega) (by decide)).mpr hm
  have hb' : ∀ c, (mh_new H c).2 b = some (.inl (0, 96, .inl f)) := fun c => (mh_new_ne (by omega)).trans hb
  have hp : ¬ nI m < 0 := nI_pos (by omega)
  have hcl : (nI m).toNatClampNeg = m := nI_clamp (by omega)
  have hm2 : m ≤ 96 := by omega
  refine m_J7_copyOf_59c91 [some (.ref b), some (.int (nI m)), none] rfl (Nat.le_of_ble_eq_true rfl) ?_
  have h96 : Int32.ofNat 96 = 96 := rfl
  simp +decide only [e_push, e_il, e_ll, e_al, e_is, e_ls, e_as, e_asN, e_inc, e_bin, e_un, e_div, e_i2l, e_l2i, e_binL, e_lneg, e_lcmp, e_dup, e_dup2, e_pop, e_if1, e_if2, e_ifnN, e_ifnR, e_sw, e_sw0, e_sw1, e_gi, e_gr, e_pi, e_pz, e_pr, e_ald, e_lald, e_aald, e_tald, e_alen, e_tlen, e_ast, e_last, e_aast, e_newa, e_newl, e_newq, e_new, e_oi, e_cv, e_cvS, e_ci, e_cs, e_pop0, e_popS, e_iret, e_zret, e_cret, e_bret, e_aret, e_aretN, e_vret, e_gs, e_ac, e_mm, e_ma, e_ldcs, e_gcs, e_gfm, e_gsV, e_gsC, e_bln, e_bld, mh_get, mh_set, mh_one, mh_two, Value.category, mh_po, mh_mc, mh_ms, mh_d, q_J7_copyOf_59c91_0, hb, h96, hne, false_implies, true_implies, implies_true, not_true_eq_false, not_false_eq_true, true_or, or_true, and_self, and_assoc, Option.some.injEq, Sum.inl.injEq, Sum.inr.injEq, Prod.mk.injEq, Value.int.injEq, Value.ref.injEq, Value.long.injEq, true_and, and_true, exists_and_left, exists_and_right, exists_eq_left, exists_eq_left', List.getElem?_cons_zero, List.getElem?_cons_succ, List.length_cons, List.length_nil, List.set_cons_zero, List.set_cons_succ, Option.toList, List.cons_append, List.nil_append, List.append_nil, Nat.zero_add, Nat.le_refl, Nat.zero_le, beq_self_eq_true, Option.isNone_none]
  refine ⟨m, rfl, by omega, hm2, ?_⟩
  simp +decide only [e_push, e_il, e_ll, e_al, e_is, e_ls, e_as, e_asN, e_inc, e_bin, e_un, e_div, e_i2l, e_l2i, e_binL, e_lneg, e_lcmp, e_dup, e_dup2, e_pop, e_if1, e_if2, e_ifnN, e_ifnR, e_sw, e_sw0, e_sw1, e_gi, e_gr, e_pi, e_pz, e_pr, e_ald, e_lald, e_aald, e_tald, e_alen, e_tlen, e_ast, e_last, e_aast, e_newa, e_newl, e_newq, e_new, e_oi, e_cv, e_cvS, e_ci, e_cs, e_pop0, e_popS, e_iret, e_zret, e_cret, e_bret, e_aret, e_aretN, e_vret, e_gs, e_ac, e_mm, e_ma, e_ldcs, e_gcs, e_gfm, e_gsV, e_gsC, e_bln, e_bld, mh_get, mh_set, mh_one, mh_two, Value.category, mh_po, mh_mc, mh_ms, mh_d, hb', h96, hmin, if_true, hp, hcl, i_cl_0, mh_new_self, mh_new_put, hm2, false_implies, true_implies, implies_true, not_true_eq_false, not_false_eq_true, true_or, or_true, and_self, and_assoc, Option.some.injEq, Sum.inl.injEq, Sum.inr.injEq, Prod.mk.injEq, Value.int.injEq, Value.ref.injEq, Value.long.injEq, true_and, and_true, exists_and_left, exists_and_right, exists_eq_left, exists_eq_left', List.getElem?_cons_zero, List.getElem?_cons_succ, List.length_cons, List.length_nil, List.set_cons_zero, List.set_cons_succ, Option.toList, List.cons_append, List.nil_append, List.append_nil, Nat.zero_add, Nat.le_refl, Nat.zero_le, beq_self_eq_true, Option.isNone_none]
theorem c_X8_init {fs : List Value} {k0 lv : Int32} (ha : H.2 a = some (.inr (.inl (8, [.int 0, .int 0, .null, .null, .int 0])))) (hb : H.2 b = some (.inl (0, m, .inl f))) (hab : ¬ b = a) (hal : a < H.1) (hbl : b < H.1) (hm : m ≤ 96) : mh_M E 1 1 96 yX8_init [.ref a, .int k0, .int lv, .ref b] H (fun r h' => r = none ∧ h' = mh_put (mh_new H (.inl (0, m, .inl (fun _ => 0)))) a (.inr (.inl (8, [.int k0, .int lv, .ref b, .ref H.1, .int 0])))) := by
  have hb' : ∀ c, (mh_put H a c).2 b = some (.inl (0, m, .inl f)) := fun c => (mh_put_ne hab).trans hb
  have hn : ∀ c d, (mh_new (mh_put H a c) d).2 a = some c := fun c d => (mh_new_ne (by show ¬ a = H.1; omega)).trans mh_put_self
  have hN : Int32.ofNat m = nI m := rfl
  refine m_X8_init [some (.ref a), some (.int k0), some (.int lv), some (.ref b)] rfl (Nat.le_of_ble_eq_true rfl) ?_
  simp +decide only [e_push, e_il, e_ll, e_al, e_is, e_ls, e_as, e_asN, e_inc, e_bin, e_un, e_div, e_i2l, e_l2i, e_binL, e_lneg, e_lcmp, e_dup, e_dup2, e_pop, e_if1, e_if2, e_ifnN, e_ifnR, e_sw, e_sw0, e_sw1, e_gi, e_gr, e_pi, e_pz, e_pr, e_ald, e_lald, e_aald, e_tald, e_alen, e_tlen, e_ast, e_last, e_aast, e_newa, e_newl, e_newq, e_new, e_oi, e_cv, e_cvS, e_ci, e_cs, e_pop0, e_popS, e_iret, e_zret, e_cret, e_bret, e_aret, e_aretN, e_vret, e_gs, e_ac, e_mm, e_ma, e_ldcs, e_gcs, e_gfm, e_gsV, e_gsC, e_bln, e_bld, mh_get, mh_set, mh_one, mh_two, Value.category, mh_po, mh_mc, mh_ms, mh_d, q_X8_init_0, ha, hb', mh_put_self, mh_put_put, hN, false_implies, true_implies, implies_true, not_true_eq_false, not_false_eq_true, true_or, or_true, and_self, and_assoc, Option.some.injEq, Sum.inl.injEq, Sum.inr.injEq, Prod.mk.injEq, Value.int.injEq, Value.ref.injEq, Value.long.injEq, true_and, and_true, exists_and_left, exists_and_right, exists_eq_left, exists_eq_left', List.getElem?_cons_zero, List.getElem?_cons_succ, List.length_cons, List.length_nil, List.set_cons_zero, List.set_cons_succ, Option.toList, List.cons_append, List.nil_append, List.append_nil, Nat.zero_add, Nat.le_refl, Nat.zero_le, beq_self_eq_true, Option.isNone_none]
  refine ⟨m, rfl, by omega, hm, ?_⟩
  simp +decide only [e_push, e_il, e_ll, e_al, e_is, e_ls, e_as, e_asN, e_inc, e_bin, e_un, e_div, e_i2l, e_l2i, e_binL, e_lneg, e_lcmp, e_dup, e_dup2, e_pop, e_if1, e_if2, e_ifnN, e_ifnR, e_sw, e_sw0, e_sw1, e_gi, e_gr, e_pi, e_pz, e_pr, e_ald, e_lald, e_aald, e_tald, e_alen, e_tlen, e_ast, e_last, e_aast, e_newa, e_newl, e_newq, e_new, e_oi, e_cv, e_cvS, e_ci, e_cs, e_pop0, e_popS, e_iret, e_zret, e_cret, e_bret, e_aret, e_aretN, e_vret, e_gs, e_ac, e_mm, e_ma, e_ldcs, e_gcs, e_gfm, e_gsV, e_gsC, e_bln, e_bld, mh_get, mh_set, mh_one, mh_two, Value.category, mh_po, mh_mc, mh_ms, mh_d, hn, mh_put_1, mh_np, hm, false_implies, true_implies, implies_true, not_true_eq_false, not_false_eq_true, true_or, or_true, and_self, and_assoc, Option.some.injEq, Sum.inl.injEq, Sum.inr.injEq, Prod.mk.injEq, Value.int.injEq, Value.ref.injEq, Value.long.injEq, true_and, and_true, exists_and_left, exists_and_right, exists_eq_left, exists_eq_left', List.getElem?_cons_zero, List.getElem?_cons_succ, List.length_cons, List.length_nil, List.set_cons_zero, List.set_cons_succ, Option.toList, List.cons_append, List.nil_append, List.append_nil, Nat.zero_add, Nat.le_refl, Nat.zero_le, beq_self_eq_true, Option.isNone_none]
theorem c_X7_parsed (hz : R + 101 ≤ h.1) (h7 : g 7 = nI key) (h8 : g 8 = nI m) (h9 : g 9 = nI a) (hm : m < 96) : mh_M E 2 3 197 yX7_parsed [.ref (R + 66)] (hA h R (tH G st g) Y) (fun r h' => r = some (.ref h.1) ∧ h' = hA (hN3 h (nI key) (nI a) m (va_cpy st (fun _ => 0) 0 0 m)) R (tH G st g) Y) := by
  have e1 : (hA h R (tH G st g) Y).1 = h.1 := rfl
  have o1 : ∀ c q, q < h.1 → (mh_new (hA h R (tH G st g) Y) c).2 q = (hA h R (tH G st g) Y).2 q := fun c q hq => mh_new_ne (by rw [e1]; omega)
  have o0 : ∀ c, (mh_new (hA h R (tH G st g) Y) c).2 (R + 66) = (hA h R (tH G st g) Y).2 (R + 66) := fun c => o1 c _ (by omega)
  have o2 : ∀ c, (mh_new (hA h R (tH G st g) Y) c).2 (R + 66 + 2) = (hA h R (tH G st g) Y).2 (R + 66 + 2) := fun c => o1 c _ (by omega)
  refine m_X7_parsed [some (.ref (R + 66))] rfl (Nat.le_of_ble_eq_true rfl) ?_
  simp +decide only [e_push, e_il, e_ll, e_al, e_is, e_ls, e_as, e_asN, e_inc, e_bin, e_un, e_div, e_i2l, e_l2i, e_binL, e_lneg, e_lcmp, e_dup, e_dup2, e_pop, e_if1, e_if2, e_ifnN, e_ifnR, e_sw, e_sw0, e_sw1, e_gi, e_gr, e_pi, e_pz, e_pr, e_ald, e_lald, e_aald, e_tald, e_alen, e_tlen, e_ast, e_last, e_aast, e_newa, e_newl, e_newq, e_new, e_oi, e_cv, e_cvS, e_ci, e_cs, e_pop0, e_popS, e_iret, e_zret, e_cret, e_bret, e_aret, e_aretN, e_vret, e_gs, e_ac, e_mm, e_ma, e_ldcs, e_gcs, e_gfm, e_gsV, e_gsC, e_bln, e_bld, mh_get, mh_set, mh_one, mh_two, Value.category, mh_po, mh_mc, mh_ms, mh_d, hA_0, hA_n0, hA_n1, hA_n6, hA_n7, hA_i0, hA_m0, hA_m1, hA_m6, hA_g0, hA_t0, hA_69, hA_70, hA_71, hA_72, hA_p0, hA_pn, hA_pm, hA_p71, hA_p72, hA_now, hA_img, hA_mnd, va_up_self, va_up_ne, bx_uu, g2_9, g2_10, g10_3, g10_4, g10_5, g10_6, g10_7, g10_8, g10_9, hA_t1, hA_t2, hA_pt0, hA_pt1, hA_pt2, t12_2, t12_3, t12_4, t12_5, t12_6, t12_7, t12_8, t12_9, t12_10, t12_11, i_in_0, i_cl_0, i_in_1, i_cl_1, i_in_2, i_cl_2, i_in_3, i_cl_3, i_in_4, i_cl_4, i_in_5, i_cl_5, i_in_6, i_cl_6, i_in_7, i_cl_7, i_in_8, i_cl_8, i_in_9, i_cl_9, i_in_10, i_cl_10, i_in_11, i_cl_11, i_in_12, i_cl_12, i_in_13, i_cl_13, i_in_14, i_cl_14, i_in_15, i_cl_15, i_in_16, i_cl_16, i_in_17, i_cl_17, i_in_18, i_cl_18, i_in_19, i_cl_19, i_in_20, i_cl_20, i_in_21, i_cl_21, i_in_22, i_cl_22, i_in_23, i_cl_23, i_in_24, i_cl_24, i_in_25, i_cl_25, i_in_26, i_cl_26, i_in_27, i_cl_27, i_in_28, i_cl_28, i_in_29, i_cl_29, i_in_30, i_cl_30, i_in_31, i_cl_31, i_in_32, i_cl_32, i_in_33, i_cl_33, q_X7_parsed_0, o0, tH_66, h7, h8, h9, e1, false_implies, true_implies, implies_true, not_true_eq_false, not_false_eq_true, true_or, or_true, and_self, and_assoc, Option.some.injEq, Sum.inl.injEq, Sum.inr.injEq, Prod.mk.injEq, Value.int.injEq, Value.ref.injEq, Value.long.injEq, true_and, and_true, exists_and_left, exists_and_right, exists_eq_left, exists_eq_left', List.getElem?_cons_zero, List.getElem?_cons_succ, List.length_cons, List.length_nil, List.set_cons_zero, List.set_cons_succ, Option.toList, List.cons_append, List.nil_append, List.append_nil, Nat.zero_add, Nat.le_refl, Nat.zero_le, beq_self_eq_true, Option.isNone_none]
  refine ⟨1, 1, 96, _, c_J7_copyOf (f := st) ((o2 _).trans (by rw [hA_t2, tH_68])) (by show R + 66 + 2 < h.1 + 1; omega) hm, Nat.le_of_ble_eq_true rfl, Nat.le_of_ble_eq_true rfl, Nat.le_of_ble_eq_true rfl, Nat.le_of_ble_eq_true rfl, ?_⟩
  rintro _ _ ⟨rfl, rfl⟩
  simp +decide only [e_push, e_il, e_ll, e_al, e_is, e_ls, e_as, e_asN, e_inc, e_bin, e_un, e_div, e_i2l, e_l2i, e_binL, e_lneg, e_lcmp, e_dup, e_dup2, e_pop, e_if1, e_if2, e_ifnN, e_ifnR, e_sw, e_sw0, e_sw1, e_gi, e_gr, e_pi, e_pz, e_pr, e_ald, e_lald, e_aald, e_tald, e_alen, e_tlen, e_ast, e_last, e_aast, e_newa, e_newl, e_newq, e_new, e_oi, e_cv, e_cvS, e_ci, e_cs, e_pop0, e_popS, e_iret, e_zret, e_cret, e_bret, e_aret, e_aretN, e_vret, e_gs, e_ac, e_mm, e_ma, e_ldcs, e_gcs, e_gfm, e_gsV, e_gsC, e_bln, e_bld, mh_get, mh_set, mh_one, mh_two, Value.category, mh_po, mh_mc, mh_ms, mh_d, hA_0, hA_n0, hA_n1, hA_n6, hA_n7, hA_i0, hA_m0, hA_m1, hA_m6, hA_g0, hA_t0, hA_69, hA_70, hA_71, hA_72, hA_p0, hA_pn, hA_pm, hA_p71, hA_p72, hA_now, hA_img, hA_mnd, va_up_self, va_up_ne, bx_uu, g2_9, g2_10, g10_3, g10_4, g10_5, g10_6, g10_7, g10_8, g10_9, hA_t1, hA_t2, hA_pt0, hA_pt1, hA_pt2, t12_2, t12_3, t12_4, t12_5, t12_6, t12_7, t12_8, t12_9, t12_10, t12_11, i_in_0, i_cl_0, i_in_1, i_cl_1, i_in_2, i_cl_2, i_in_3, i_cl_3, i_in_4, i_cl_4, i_in_5, i_cl_5, i_in_6, i_cl_6, i_in_7, i_cl_7, i_in_8, i_cl_8, i_in_9, i_cl_9, i_in_10, i_cl_10, i_in_11, i_cl_11, i_in_12, i_cl_12, i_in_13, i_cl_13, i_in_14, i_cl_14, i_in_15, i_cl_15, i_in_16, i_cl_16, i_in_17, i_cl_17, i_in_18, i_cl_18, i_in_19, i_cl_19, i_in_20, i_cl_20, i_in_21, i_cl_21, i_in_22, i_cl_22, i_in_23, i_cl_23, i_in_24, i_cl_24, i_in_25, i_cl_25, i_in_26, i_cl_26, i_in_27, i_cl_27, i_in_28, i_cl_28, i_in_29, i_cl_29, i_in_30, i_cl_30, i_in_31, i_cl_31, i_in_32, i_cl_32, i_in_33, i_cl_33, false_implies, true_implies, implies_true, not_true_eq_false, not_false_eq_true, true_or, or_true, and_self, and_assoc, Option.some.injEq, Sum.inl.injEq, Sum.inr.injEq, Prod.mk.injEq, Value.int.injEq, Value.ref.injEq, Value.long.injEq, true_and, and_true, exists_and_left, exists_and_right, exists_eq_left, exists_eq_left', List.getElem?_cons_zero, List.getElem?_cons_succ, List.length_cons, List.length_nil, List.set_cons_zero, List.set_cons_succ, Option.toList, List.cons_append, List.nil_append, List.append_nil, Nat.zero_add, Nat.le_refl, Nat.zero_le, beq_self_eq_true, Option.isNone_none]
  have s1 : ∀ c d, (mh_new (mh_new (hA h R (tH G st g) Y) c) d).2 h.1 = some c := fun c d => (mh_new_ne (by show ¬ h.1 = h.1 + 1; omega)).trans (mh_new_self (h := hA h R (tH G st g) Y))
  refine ⟨1, 1, 96, _, c_X8_init (fs := []) (a := h.1) (b := h.1 + 1) (m := m) (s1 _ _) (mh_new_self (h := mh_new (hA h R (tH G st g) Y) _)) (by omega) (by show h.1 < h.1 + 1 + 1; omega) (by show h.1 + 1 < h.1 + 1 + 1; omega) (by omega), Nat.le_of_ble_eq_true rfl, Nat.le_of_ble_eq_true rfl, Nat.le_of_ble_eq_true rfl, Nat.le_of_ble_eq_true rfl, ?_⟩
  rintro _ _ ⟨rfl, rfl⟩
  simp +decide only [e_push, e_il, e_ll, e_al, e_is, e_ls, e_as, e_asN, e_inc, e_bin, e_un, e_div, e_i2l, e_l2i, e_binL, e_lneg, e_lcmp, e_dup, e_dup2, e_pop, e_if1, e_if2, e_ifnN, e_ifnR, e_sw, e_sw0, e_sw1, e_gi, e_gr, e_pi, e_pz, e_pr, e_ald, e_lald, e_aald, e_tald, e_alen, e_tlen, e_ast, e_last, e_aast, e_newa, e_newl, e_newq, e_new, e_oi, e_cv, e_cvS, e_ci, e_cs, e_pop0, e_popS, e_iret, e_zret, e_cret, e_bret, e_aret, e_aretN, e_vret, e_gs, e_ac, e_mm, e_ma, e_ldcs, e_gcs, e_gfm, e_gsV, e_gsC, e_bln, e_bld, mh_get, mh_set, mh_one, mh_two, Value.category, mh_po, mh_mc, mh_ms, mh_d, hA_0, hA_n0, hA_n1, hA_n6, hA_n7, hA_i0, hA_m0, hA_m1, hA_m6, hA_g0, hA_t0, hA_69, hA_70, hA_71, hA_72, hA_p0, hA_pn, hA_pm, hA_p71, hA_p72, hA_now, hA_img, hA_mnd, va_up_self, va_up_ne, bx_uu, g2_9, g2_10, g10_3, g10_4, g10_5, g10_6, g10_7, g10_8, g10_9, hA_t1, hA_t2, hA_pt0, hA_pt1, hA_pt2, t12_2, t12_3, t12_4, t12_5, t12_6, t12_7, t12_8, t12_9, t12_10, t12_11, i_in_0, i_cl_0, i_in_1, i_cl_1, i_in_2, i_cl_2, i_in_3, i_cl_3, i_in_4, i_cl_4, i_in_5, i_cl_5, i_in_6, i_cl_6, i_in_7, i_cl_7, i_in_8, i_cl_8, i_in_9, i_cl_9, i_in_10, i_cl_10, i_in_11, i_cl_11, i_in_12, i_cl_12, i_in_13, i_cl_13, i_in_14, i_cl_14, i_in_15, i_cl_15, i_in_16, i_cl_16, i_in_17, i_cl_17, i_in_18, i_cl_18, i_in_19, i_cl_19, i_in_20, i_cl_20, i_in_21, i_cl_21, i_in_22, i_cl_22, i_in_23, i_cl_23, i_in_24, i_cl_24, i_in_25, i_cl_25, i_in_26, i_cl_26, i_in_27, i_cl_27, i_in_28, i_cl_28, i_in_29, i_cl_29, i_in_30, i_cl_30, i_in_31, i_cl_31, i_in_32, i_cl_32, i_in_33, i_cl_33, false_implies, true_implies, implies_true, not_true_eq_false, not_false_eq_true, true_or, or_true, and_self, and_assoc, Option.some.injEq, Sum.inl.injEq, Sum.inr.injEq, Prod.mk.injEq, Value.int.injEq, Value.ref.injEq, Value.long.injEq, true_and, and_true, exists_and_left, exists_and_right, exists_eq_left, exists_eq_left', List.getElem?_cons_zero, List.getElem?_cons_succ, List.length_cons, List.length_nil, List.set_cons_zero, List.set_cons_succ, Option.toList, List.cons_append, List.nil_append, List.append_nil, Nat.zero_add, Nat.le_refl, Nat.zero_le, beq_self_eq_true, Option.isNone_none]
  rw [hA, hA, ← hN3_ov (by omega)]
  refine Prod.ext rfl (funext fun q => ?_)
  by_cases n1 : q = h.1
  · subst n1; simp [mh_put, hN3, ov, mh_new]
  · by_cases n2 : q = h.1 + 1
    · subst n2; simp [mh_put, hN3, ov, mh_new]
    · by_cases n3 : q = h.1 + 2
      · subst n3; simp [mh_put, hN3, ov, mh_new]
      · simp [mh_put, hN3, ov, mh_new, n1, n2, n3]
end TPN
