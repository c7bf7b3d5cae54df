/-! PART 98.tphi: constructors: blocks that grow; small ones -/
/-- a block of m cells from b on, at the heap's end -/
def gB (H : mh_H) (b m : Nat) (B : Nat → Option mh_C) : mh_H := (b + m, fun q => if b ≤ q ∧ q < b + m then B (q - b) else H.2 q)
/-- one block behind another -/
def jn (o : Nat) (B K : Nat → Option mh_C) : Nat → Option mh_C := fun i => if i < o then B i else K (i - o)
section GB
variable {H : mh_H} {b m n i o : Nat} {B B' K : Nat → Option mh_C} {c : mh_C}
theorem gB_1 : (gB H b m B).1 = b + m := rfl
theorem gB_in (hi : i < m) : (gB H b m B).2 (b + i) = B i := by
  simp only [gB, show b ≤ b + i ∧ b + i < b + m by omega, and_self, if_true, show b + i - b = i by omega]
theorem gB_in0 (hi : 0 < m) : (gB H b m B).2 b = B 0 := gB_in (i := 0) hi
theorem gB_ext (h : ∀ i, i < m → B i = B' i) : gB H b m B = gB H b m B' := by
  refine Prod.ext rfl (funext fun q => ?_)
  by_cases e : b ≤ q ∧ q < b + m
  · simp only [gB, e, and_self, if_true]; exact h _ (by omega)
  · simp only [gB, e, if_false]
theorem gB_new : mh_new (gB H b m B) c = gB H b (m + 1) (va_up B m (some c)) := by
  refine Prod.ext rfl (funext fun q => ?_)
  by_cases e : q = b + m
  · subst e
    have e1 : b ≤ b + m ∧ b + m < b + (m + 1) := by omega
    simp only [gB, mh_new, if_true, e1, and_self, show b + m - b = m by omega, va_up_self]
  · by_cases e2 : b ≤ q ∧ q < b + m
    · have e1 : b ≤ q ∧ q < b + (m + 1) := by omega
      simp only [gB, mh_new, e, e1, e2, and_self, if_true, if_false]
      rw [va_up_ne _ _ (by omega)]
    · have e1 : ¬ (b ≤ q ∧ q < b + (m + 1)) := by omega
      simp only [gB, mh_new, e, e1, e2, if_false]
theorem gB_put (hi : i < m) : mh_put (gB H b m B) (b + i) c = gB H b m (va_up B i (some c)) := by
  refine Prod.ext rfl (funext fun q => ?_)
  by_cases e : q = b + i
  · subst e
    have e1 : b ≤ b + i ∧ b + i < b + m := by omega
    simp only [gB, mh_put, if_true, e1, and_self, show b + i - b = i by omega, va_up_self]
  · by_cases e2 : b ≤ q ∧ q < b + m
    · simp only [gB, mh_put, e, e2, and_self, if_true, if_false]
      rw [va_up_ne _ _ (by omega)]
    · simp only [gB, mh_put, e, e2, if_false]
theorem gB_put0 (hi : 0 < m) : mh_put (gB H b m B) b c = gB H b m (va_up B 0 (some c)) := gB_put (i := 0) hi
theorem gB_gB (h1 : o ≤ m) (h2 : m ≤ o + n) : gB (gB H b m B) (b + o) n K = gB H b (o + n) (jn o B K) := by
  refine Prod.ext (Nat.add_assoc _ _ _) (funext fun q => ?_)
  by_cases e : b + o ≤ q ∧ q < b + o + n
  · have e1 : b ≤ q ∧ q < b + (o + n) := by omega
    simp only [gB, e, e1, and_self, if_true, jn, show ¬ q - b < o by omega, if_false, show q - b - o = q - (b + o) by omega]
  · by_cases e2 : b ≤ q ∧ q < b + o
    · have e1 : b ≤ q ∧ q < b + (o + n) := by omega
      have e3 : b ≤ q ∧ q < b + m := by omega
      simp only [gB, e, e1, e3, and_self, if_true, if_false, jn, show q - b < o by omega]
    · have e1 : ¬ (b ≤ q ∧ q < b + (o + n)) := by omega
      have e3 : ¬ (b ≤ q ∧ q < b + m) := by omega
      simp only [gB, e, e1, e3, if_false]
theorem jn_lt (hi : i < o) : jn o B K i = B i := by rw [jn, if_pos hi]
theorem jn_ge (hi : o ≤ i) : jn o B K i = K (i - o) := by rw [jn, if_neg (by omega)]
theorem gB_of (hs : H.1 = b + 1) (hc : H.2 b = some c) : gB H b 1 (fun _ => some c) = H := by
  refine Prod.ext hs.symm (funext fun q => ?_)
  by_cases e : b ≤ q ∧ q < b + 1
  · simp only [gB, e, and_self, if_true]
    rw [← hc, show q = b by omega]
  · simp only [gB, e, if_false]
end GB
section NA
variable {X : mh_X} {P : mh_PR} {lv : List (Option Value)} {r : List Value} {h : mh_H} {k n kd M : Nat} {c : Int32}
theorem e_naL (hc : c = nI M) (hM : M ≤ 4096) : s_newa X kd P lv (.int c :: r) h k n = (k + 1 ≤ mh_mc X ∧ n + M ≤ mh_ms X ∧ P lv (.ref h.1 :: r) (mh_new h (.inl (kd, M, .inl (fun _ => 0)))) (k + 1) (n + M)) := by
  rw [e_newa, hc]
  refine propext ⟨?_, fun z => ⟨M, rfl, hM, z⟩⟩
  rintro ⟨N, h1, h2, h3⟩
  have := (nI_eq (by omega) (by omega)).mp h1
  subst this
  exact h3
theorem e_nlL (hc : c = nI M) (hM : M ≤ 4096) : s_newl X P lv (.int c :: r) h k n = (k + 1 ≤ mh_mc X ∧ n + M ≤ mh_ms X ∧ P lv (.ref h.1 :: r) (mh_new h (.inl (3, M, .inr (.inl (fun _ => 0))))) (k + 1) (n + M)) := by
  rw [e_newl, hc]
  refine propext ⟨?_, fun z => ⟨M, rfl, hM, z⟩⟩
  rintro ⟨N, h1, h2, h3⟩
  have := (nI_eq (by omega) (by omega)).mp h1
  subst this
  exact h3
theorem e_nqL (hc : c = nI M) (hM : M ≤ 4096) : s_newq X kd P lv (.int c :: r) h k n = (k + 1 ≤ mh_mc X ∧ n + M ≤ mh_ms X ∧ P lv (.ref h.1 :: r) (mh_new h (.inl (kd, M, .inr (.inr (.inr (.inr (fun _ => none))))))) (k + 1) (n + M)) := by
  rw [e_newq, hc]
  refine propext ⟨?_, fun z => ⟨M, rfl, hM, z⟩⟩
  rintro ⟨N, h1, h2, h3⟩
  have := (nI_eq (by omega) (by omega)).mp h1
  subst this
  exact h3
end NA
/-- a call of a constructor -/
theorem mh_en {X : mh_X} {P : mh_PR} {lv : List (Option Value)} {h : mh_H} {k n : Nat} {y : MethodName} {As rest st : List Value} {d' mc' ms' : Nat} {h1 : mh_H} (hM : mh_M X.1 d' mc' ms' y As h (fun r h' => r = none ∧ h' = h1)) (hd : d' < mh_d X) (hk : k + mc' ≤ mh_mc X) (hn : n + ms' ≤ mh_ms X) (hr : (rest.map fun v => v.category).sum ≤ 8) (kk : P lv rest h1 (k + mc') (n + ms')) : mh_cl X y As rest P lv st h k n :=
  ⟨d', mc', ms', _, hM, hd, hk, hn, hr, fun v h' hq => by obtain ⟨rfl, rfl⟩ := hq; exact kk⟩
def st0 : Nat → Int32 := fun j => if j = 5 then -1000000005 else 0
/-- People: itself, squares, ranks, crowds, able -/
def kP0 (a j : Nat) : Option mh_C := match j with
  | 0 => some (.inr (.inl (3, [.ref (a + 1), .ref (a + 2), .ref (a + 3), .ref (a + 4)])))
  | 1 => some (.inl (0, 6, .inl (fun _ => 0)))
  | 2 => some (.inl (0, 6, .inl (fun _ => 0)))
  | 3 => some (.inl (0, 4, .inl (upd (fun _ => 0) 0 63)))
  | _ => some (.inl (0, 10, .inl (upd (fun _ => 0) 0 63)))
def kL0 (a j : Nat) : Option mh_C := match j with
  | 0 => some (.inr (.inl (2, [.ref (a + 1), .ref (a + 2), .int 0])))
  | 1 => some (.inl (7, 14, .inr (.inr (.inr (.inr (fun _ => none))))))
  | _ => some (.inl (0, 3, .inl (fiN (fun _ => 0) (-1000000005) 3)))
def kS0 (a j : Nat) : Option mh_C := match j with
  | 0 => some (kSh a (-1) 0)
  | _ => some (.inl (0, 24, .inl (fun _ => 0)))
def kSl0 (a j : Nat) : Option mh_C := match j with
  | 0 => some (.inr (.inl (5, [.ref (a + 1), .ref (a + 2), .int 0, .int 0])))
  | 1 => some (k_St st0)
  | 2 => some (kSh (a + 2) (-1) 0)
  | _ => some (.inl (0, 24, .inl (fun _ => 0)))
def kG0 (a j : Nat) : Option mh_C := match j with
  | 0 => some (.inr (.inl (1, [.ref (a + 1), .ref (a + 2), .ref (a + 3), .ref (a + 4), .int 0])))
  | 1 => some (.inl (0, 256, .inl (fun _ => 0)))
  | 2 => some (.inl (0, 4, .inl (fun _ => 0)))
  | 3 => some (.inl (0, 6, .inl (fun _ => 0)))
  | _ => some (.inl (0, 6, .inl (fun _ => 0)))
def kT0 (a j : Nat) : Option mh_C := match j with
  | 0 => some (.inr (.inl (7, [.ref (a + 1), .ref (a + 2), .int 0, .int (-1), .int (-1), .int 0, .int 0, .int 0, .int 0, .int 0, .int 0, .int 0])))
  | 1 => some (.inl (0, 96, .inl (fun _ => 0)))
  | _ => some (.inl (0, 96, .inl (fun _ => 0)))
section INI
variable {E : mh_E} {H : mh_H} {a : Nat}
theorem c_X6_init1 (ha : H.2 a = some (.inr (.inl (6, [.int 0, .int 0, .int 0, .int 0, .int 0, .int 0])))) : mh_M E 1 0 0 yX6_init [.ref a] H (fun r h' => r = none ∧ h' = mh_put H a (k_St st0)) := by
  refine m_X6_init [some (.ref a)] rfl (Nat.le_of_ble_eq_true rfl) ?_
  simp +decide only [e_push, e_il, e_ll, e_al, e_is, e_ls, e_as, e_asN, e_inc, e_bin, e_un, e_div, e_i2l, e_l2i, e_binL, e_lneg, e_lcmp, e_dup, e_dup2, e_pop, e_if1, e_if2, e_ifnN, e_ifnR, e_sw, e_sw0, e_sw1, e_gi, e_gr, e_pi, e_pz, e_pr, e_ald, e_lald, e_aald, e_tald, e_alen, e_tlen, e_ast, e_last, e_aast, e_newa, e_newl, e_newq, e_new, e_oi, e_cv, e_cvS, e_ci, e_cs, e_pop0, e_popS, e_iret, e_zret, e_cret, e_bret, e_aret, e_aretN, e_vret, e_gs, e_ac, e_mm, e_ma, e_ldcs, e_gcs, e_gfm, e_gsV, e_gsC, e_bln, e_bld, mh_get, mh_set, mh_one, mh_two, Value.category, mh_po, mh_mc, mh_ms, mh_d, q_X6_init_0, ha, mh_put_self, mh_put_put, false_implies, true_implies, implies_true, not_true_eq_false, not_false_eq_true, true_or, or_true, and_self, and_assoc, Option.some.injEq, Sum.inl.injEq, Sum.inr.injEq, Prod.mk.injEq, Value.int.injEq, Value.ref.injEq, Value.long.injEq, true_and, and_true, exists_and_left, exists_and_right, exists_eq_left, exists_eq_left', List.getElem?_cons_zero, List.getElem?_cons_succ, List.length_cons, List.length_nil, List.set_cons_zero, List.set_cons_succ, Option.toList, List.cons_append, List.nil_append, List.append_nil, Nat.zero_add, Nat.le_refl, Nat.zero_le, beq_self_eq_true, Option.isNone_none]
  rfl
theorem c_X4_init0 : mh_M E 1 1 24 yX4_init [.ref a] (gB H a 1 (fun _ => some (.inr (.inl (4, [.null, .int 0, .int 0]))))) (fun r h' => r = none ∧ h' = gB H a 2 (kS0 a)) := by
  refine m_X4_init [some (.ref a)] rfl (Nat.le_of_ble_eq_true rfl) ?_
  simp +decide only [e_push, e_il, e_ll, e_al, e_is, e_ls, e_as, e_asN, e_inc, e_bin, e_un, e_div, e_i2l, e_l2i, e_binL, e_lneg, e_lcmp, e_dup, e_dup2, e_pop, e_if1, e_if2, e_ifnN, e_ifnR, e_sw, e_sw0, e_sw1, e_gi, e_gr, e_pi, e_pz, e_pr, e_ald, e_lald, e_aald, e_tald, e_alen, e_tlen, e_ast, e_last, e_aast, e_new, e_oi, e_cv, e_cvS, e_ci, e_cs, e_pop0, e_popS, e_iret, e_zret, e_cret, e_bret, e_aret, e_aretN, e_vret, e_gs, e_ac, e_mm, e_ma, e_ldcs, e_gcs, e_gfm, e_gsV, e_gsC, e_bln, e_bld, mh_get, mh_set, mh_one, mh_two, Value.category, mh_po, mh_mc, mh_ms, mh_d, gB_1, gB_new, gB_put, gB_put0, gB_in, gB_in0, gB_gB, jn_lt, jn_ge, va_up_self, va_up_ne, i_in_0, i_cl_0, i_in_1, i_cl_1, i_in_2, i_cl_2, i_in_3, i_cl_3, i_in_4, i_cl_4, i_in_5, i_cl_5, i_in_6, i_cl_6, i_in_7, i_cl_7, i_in_8, i_cl_8, i_in_9, i_cl_9, i_in_10, i_cl_10, i_in_11, i_cl_11, i_in_12, i_cl_12, i_in_13, i_cl_13, i_in_14, i_cl_14, i_in_15, i_cl_15, i_in_16, i_cl_16, i_in_17, i_cl_17, i_in_18, i_cl_18, i_in_19, i_cl_19, i_in_20, i_cl_20, i_in_21, i_cl_21, i_in_22, i_cl_22, i_in_23, i_cl_23, i_in_24, i_cl_24, i_in_25, i_cl_25, i_in_26, i_cl_26, i_in_27, i_cl_27, i_in_28, i_cl_28, i_in_29, i_cl_29, i_in_30, i_cl_30, i_in_31, i_cl_31, i_in_32, i_cl_32, i_in_33, i_cl_33, q_X4_init_0, e_naL (c := 24) (M := 24) rfl (by decide), false_implies, true_implies, implies_true, not_true_eq_false, not_false_eq_true, true_or, or_true, and_self, and_assoc, Option.some.injEq, Sum.inl.injEq, Sum.inr.injEq, Prod.mk.injEq, Value.int.injEq, Value.ref.injEq, Value.long.injEq, true_and, and_true, exists_and_left, exists_and_right, exists_eq_left, exists_eq_left', List.getElem?_cons_zero, List.getElem?_cons_succ, List.length_cons, List.length_nil, List.set_cons_zero, List.set_cons_succ, Option.toList, List.cons_append, List.nil_append, List.append_nil, Nat.zero_add, Nat.le_refl, Nat.zero_le, beq_self_eq_true, Option.isNone_none]
  refine gB_ext fun i hi => ?_
  rcases (show i = 0 ∨ i = 1 by omega) with rfl | rfl <;> rfl
theorem c_X4_init (hs : H.1 = a + 1) (ha : H.2 a = some (.inr (.inl (4, [.null, .int 0, .int 0])))) : mh_M E 1 1 24 yX4_init [.ref a] H (fun r h' => r = none ∧ h' = gB H a 2 (kS0 a)) := by
  have := c_X4_init0 (E := E) (H := H) (a := a)
  rwa [gB_of hs ha] at this
theorem c_X3_init0 : mh_M E 1 4 26 yX3_init [.ref a] (gB H a 1 (fun _ => some (.inr (.inl (3, [.null, .null, .null, .null]))))) (fun r h' => r = none ∧ h' = gB H a 5 (kP0 a)) := by
  refine m_X3_init [some (.ref a)] rfl (Nat.le_of_ble_eq_true rfl) ?_
  simp +decide only [e_push, e_il, e_ll, e_al, e_is, e_ls, e_as, e_asN, e_inc, e_bin, e_un, e_div, e_i2l, e_l2i, e_binL, e_lneg, e_lcmp, e_dup, e_dup2, e_pop, e_if1, e_if2, e_ifnN, e_ifnR, e_sw, e_sw0, e_sw1, e_gi, e_gr, e_pi, e_pz, e_pr, e_ald, e_lald, e_aald, e_tald, e_alen, e_tlen, e_ast, e_last, e_aast, e_new, e_oi, e_cv, e_cvS, e_ci, e_cs, e_pop0, e_popS, e_iret, e_zret, e_cret, e_bret, e_aret, e_aretN, e_vret, e_gs, e_ac, e_mm, e_ma, e_ldcs, e_gcs, e_gfm, e_gsV, e_gsC, e_bln, e_bld, mh_get, mh_set, mh_one, mh_two, Value.category, mh_po, mh_mc, mh_ms, mh_d, gB_1, gB_new, gB_put, gB_put0, gB_in, gB_in0, gB_gB, jn_lt, jn_ge, va_up_self, va_up_ne, i_in_0, i_cl_0, i_in_1, i_cl_1, i_in_2, i_cl_2, i_in_3, i_cl_3, i_in_4, i_cl_4, i_in_5, i_cl_5, i_in_6, i_cl_6, i_in_7, i_cl_7, i_in_8, i_cl_8, i_in_9, i_cl_9, i_in_10, i_cl_10, i_in_11, i_cl_11, i_in_12, i_cl_12, i_in_13, i_cl_13, i_in_14, i_cl_14, i_in_15, i_cl_15, i_in_16, i_cl_16, i_in_17, i_cl_17, i_in_18, i_cl_18, i_in_19, i_cl_19, i_in_20, i_cl_20, i_in_21, i_cl_21, i_in_22, i_cl_22, i_in_23, i_cl_23, i_in_24, i_cl_24, i_in_25, i_cl_25, i_in_26, i_cl_26, i_in_27, i_cl_27, i_in_28, i_cl_28, i_in_29, i_cl_29, i_in_30, i_cl_30, i_in_31, i_cl_31, i_in_32, i_cl_32, i_in_33, i_cl_33, q_X3_init_0, e_naL (c := 6) (M := 6) rfl (by decide), e_naL (c := 4) (M := 4) rfl (by decide), e_naL (c := 10) (M := 10) rfl (by decide), false_implies, true_implies, implies_true, not_true_eq_false, not_false_eq_true, true_or, or_true, and_self, and_assoc, Option.some.injEq, Sum.inl.injEq, Sum.inr.injEq, Prod.mk.injEq, Value.int.injEq, Value.ref.injEq, Value.long.injEq, true_and, and_true, exists_and_left, exists_and_right, exists_eq_left, exists_eq_left', List.getElem?_cons_zero, List.getElem?_cons_succ, List.length_cons, List.length_nil, List.set_cons_zero, List.set_cons_succ, Option.toList, List.cons_append, List.nil_append, List.append_nil, Nat.zero_add, Nat.le_refl, Nat.zero_le, beq_self_eq_true, Option.isNone_none]
  refine gB_ext fun i hi => ?_
  rcases (show i = 0 ∨ i = 1 ∨ i = 2 ∨ i = 3 ∨ i = 4 by omega) with rfl | rfl | rfl | rfl | rfl <;> rfl
theorem c_X3_init (hs : H.1 = a + 1) (ha : H.2 a = some (.inr (.inl (3, [.null, .null, .null, .null])))) : mh_M E 1 4 26 yX3_init [.ref a] H (fun r h' => r = none ∧ h' = gB H a 5 (kP0 a)) := by
  have := c_X3_init0 (E := E) (H := H) (a := a)
  rwa [gB_of hs ha] at this
theorem c_X1_init0 : mh_M E 1 4 272 yX1_init [.ref a] (gB H a 1 (fun _ => some (.inr (.inl (1, [.null, .null, .null, .null, .int 0]))))) (fun r h' => r = none ∧ h' = gB H a 5 (kG0 a)) := by
  refine m_X1_init [some (.ref a)] rfl (Nat.le_of_ble_eq_true rfl) ?_
  simp +decide only [e_push, e_il, e_ll, e_al, e_is, e_ls, e_as, e_asN, e_inc, e_bin, e_un, e_div, e_i2l, e_l2i, e_binL, e_lneg, e_lcmp, e_dup, e_dup2, e_pop, e_if1, e_if2, e_ifnN, e_ifnR, e_sw, e_sw0, e_sw1, e_gi, e_gr, e_pi, e_pz, e_pr, e_ald, e_lald, e_aald, e_tald, e_alen, e_tlen, e_ast, e_last, e_aast, e_new, e_oi, e_cv, e_cvS, e_ci, e_cs, e_pop0, e_popS, e_iret, e_zret, e_cret, e_bret, e_aret, e_aretN, e_vret, e_gs, e_ac, e_mm, e_ma, e_ldcs, e_gcs, e_gfm, e_gsV, e_gsC, e_bln, e_bld, mh_get, mh_set, mh_one, mh_two, Value.category, mh_po, mh_mc, mh_ms, mh_d, gB_1, gB_new, gB_put, gB_put0, gB_in, gB_in0, gB_gB, jn_lt, jn_ge, va_up_self, va_up_ne, i_in_0, i_cl_0, i_in_1, i_cl_1, i_in_2, i_cl_2, i_in_3, i_cl_3, i_in_4, i_cl_4, i_in_5, i_cl_5, i_in_6, i_cl_6, i_in_7, i_cl_7, i_in_8, i_cl_8, i_in_9, i_cl_9, i_in_10, i_cl_10, i_in_11, i_cl_11, i_in_12, i_cl_12, i_in_13, i_cl_13, i_in_14, i_cl_14, i_in_15, i_cl_15, i_in_16, i_cl_16, i_in_17, i_cl_17, i_in_18, i_cl_18, i_in_19, i_cl_19, i_in_20, i_cl_20, i_in_21, i_cl_21, i_in_22, i_cl_22, i_in_23, i_cl_23, i_in_24, i_cl_24, i_in_25, i_cl_25, i_in_26, i_cl_26, i_in_27, i_cl_27, i_in_28, i_cl_28, i_in_29, i_cl_29, i_in_30, i_cl_30, i_in_31, i_cl_31, i_in_32, i_cl_32, i_in_33, i_cl_33, q_X1_init_0, e_naL (c := 256) (M := 256) rfl (by decide), e_naL (c := 6) (M := 6) rfl (by decide), e_naL (c := 4) (M := 4) rfl (by decide), false_implies, true_implies, implies_true, not_true_eq_false, not_false_eq_true, true_or, or_true, and_self, and_assoc, Option.some.injEq, Sum.inl.injEq, Sum.inr.injEq, Prod.mk.injEq, Value.int.injEq, Value.ref.injEq, Value.long.injEq, true_and, and_true, exists_and_left, exists_and_right, exists_eq_left, exists_eq_left', List.getElem?_cons_zero, List.getElem?_cons_succ, List.length_cons, List.length_nil, List.set_cons_zero, List.set_cons_succ, Option.toList, List.cons_append, List.nil_append, List.append_nil, Nat.zero_add, Nat.le_refl, Nat.zero_le, beq_self_eq_true, Option.isNone_none]
  refine gB_ext fun i hi => ?_
  rcases (show i = 0 ∨ i = 1 ∨ i = 2 ∨ i = 3 ∨ i = 4 by omega) with rfl | rfl | rfl | rfl | rfl <;> rfl
theorem c_X1_init (hs : H.1 = a + 1) (ha : H.2 a = some (.inr (.inl (1, [.null, .null, .null, .null, .int 0])))) : mh_M E 1 4 272 yX1_init [.ref a] H (fun r h' => r = none ∧ h' = gB H a 5 (kG0 a)) := by
  have := c_X1_init0 (E := E) (H := H) (a := a)
  rwa [gB_of hs ha] at this
theorem c_X7_init0 : mh_M E 1 2 192 yX7_init [.ref a] (gB H a 1 (fun _ => some (.inr (.inl (7, [.null, .null, .int 0, .int 0, .int 0, .int 0, .int 0, .int 0, .int 0, .int 0, .int 0, .int 0]))))) (fun r h' => r = none ∧ h' = gB H a 3 (kT0 a)) := by
  refine m_X7_init [some (.ref a)] rfl (Nat.le_of_ble_eq_true rfl) ?_
  simp +decide only [e_push, e_il, e_ll, e_al, e_is, e_ls, e_as, e_asN, e_inc, e_bin, e_un, e_div, e_i2l, e_l2i, e_binL, e_lneg, e_lcmp, e_dup, e_dup2, e_pop, e_if1, e_if2, e_ifnN, e_ifnR, e_sw, e_sw0, e_sw1, e_gi, e_gr, e_pi, e_pz, e_pr, e_ald, e_lald, e_aald, e_tald, e_alen, e_tlen, e_ast, e_last, e_aast, e_new, e_oi, e_cv, e_cvS, e_ci, e_cs, e_pop0, e_popS, e_iret, e_zret, e_cret, e_bret, e_aret, e_aretN, e_vret, e_gs, e_ac, e_mm, e_ma, e_ldcs, e_gcs, e_gfm, e_gsV, e_gsC, e_bln, e_bld, mh_get, mh_set, mh_one, mh_two, Value.category, mh_po, mh_mc, mh_ms, mh_d, gB_1, gB_new, gB_put, gB_put0, gB_in, gB_in0, gB_gB, jn_lt, jn_ge, va_up_self, va_up_ne, i_in_0, i_cl_0, i_in_1, i_cl_1, i_in_2, i_cl_2, i_in_3, i_cl_3, i_in_4, i_cl_4, i_in_5, i_cl_5, i_in_6, i_cl_6, i_in_7, i_cl_7, i_in_8, i_cl_8, i_in_9, i_cl_9, i_in_10, i_cl_10, i_in_11, i_cl_11, i_in_12, i_cl_12, i_in_13, i_cl_13, i_in_14, i_cl_14, i_in_15, i_cl_15, i_in_16, i_cl_16, i_in_17, i_cl_17, i_in_18, i_cl_18, i_in_19, i_cl_19, i_in_20, i_cl_20, i_in_21, i_cl_21, i_in_22, i_cl_22, i_in_23, i_cl_23, i_in_24, i_cl_24, i_in_25, i_cl_25, i_in_26, i_cl_26, i_in_27, i_cl_27, i_in_28, i_cl_28, i_in_29, i_cl_29, i_in_30, i_cl_30, i_in_31, i_cl_31, i_in_32, i_cl_32, i_in_33, i_cl_33, q_X7_init_0, e_naL (c := 96) (M := 96) rfl (by decide), false_implies, true_implies, implies_true, not_true_eq_false, not_false_eq_true, true_or, or_true, and_self, and_assoc, Option.some.injEq, Sum.inl.injEq, Sum.inr.injEq, Prod.mk.injEq, Value.int.injEq, Value.ref.injEq, Value.long.injEq, true_and, and_true, exists_and_left, exists_and_right, exists_eq_left, exists_eq_left', List.getElem?_cons_zero, List.getElem?_cons_succ, List.length_cons, List.length_nil, List.set_cons_zero, List.set_cons_succ, Option.toList, List.cons_append, List.nil_append, List.append_nil, Nat.zero_add, Nat.le_refl, Nat.zero_le, beq_self_eq_true, Option.isNone_none]
  refine gB_ext fun i hi => ?_
  rcases (show i = 0 ∨ i = 1 ∨ i = 2 by omega) with rfl | rfl | rfl <;> rfl
theorem c_X7_init (hs : H.1 = a + 1) (ha : H.2 a = some (.inr (.inl (7, [.null, .null, .int 0, .int 0, .int 0, .int 0, .int 0, .int 0, .int 0, .int 0, .int 0, .int 0])))) : mh_M E 1 2 192 yX7_init [.ref a] H (fun r h' => r = none ∧ h' = gB H a 3 (kT0 a)) := by
  have := c_X7_init0 (E := E) (H := H) (a := a)
  rwa [gB_of hs ha] at this
theorem c_X2_init0 : mh_M E 1 2 17 yX2_init [.ref a] (gB H a 1 (fun _ => some (.inr (.inl (2, [.null, .null, .int 0]))))) (fun r h' => r = none ∧ h' = gB H a 3 (kL0 a)) := by
  refine m_X2_init [some (.ref a)] rfl (Nat.le_of_ble_eq_true rfl) ?_
  simp +decide only [e_push, e_il, e_ll, e_al, e_is, e_ls, e_as, e_asN, e_inc, e_bin, e_un, e_div, e_i2l, e_l2i, e_binL, e_lneg, e_lcmp, e_dup, e_dup2, e_pop, e_if1, e_if2, e_ifnN, e_ifnR, e_sw, e_sw0, e_sw1, e_gi, e_gr, e_pi, e_pz, e_pr, e_ald, e_lald, e_aald, e_tald, e_alen, e_tlen, e_ast, e_last, e_aast, e_new, e_oi, e_cv, e_cvS, e_ci, e_cs, e_pop0, e_popS, e_iret, e_zret, e_cret, e_bret, e_aret, e_aretN, e_vret, e_gs, e_ac, e_mm, e_ma, e_ldcs, e_gcs, e_gfm, e_gsV, e_gsC, e_bln, e_bld, mh_get, mh_set, mh_one, mh_two, Value.category, mh_po, mh_mc, mh_ms, mh_d, gB_1, gB_new, gB_put, gB_put0, gB_in, gB_in0, gB_gB, jn_lt, jn_ge, va_up_self, va_up_ne, i_in_0, i_cl_0, i_in_1, i_cl_1, i_in_2, i_cl_2, i_in_3, i_cl_3, i_in_4, i_cl_4, i_in_5, i_cl_5, i_in_6, i_cl_6, i_in_7, i_cl_7, i_in_8, i_cl_8, i_in_9, i_cl_9, i_in_10, i_cl_10, i_in_11, i_cl_11, i_in_12, i_cl_12, i_in_13, i_cl_13, i_in_14, i_cl_14, i_in_15, i_cl_15, i_in_16, i_cl_16, i_in_17, i_cl_17, i_in_18, i_cl_18, i_in_19, i_cl_19, i_in_20, i_cl_20, i_in_21, i_cl_21, i_in_22, i_cl_22, i_in_23, i_cl_23, i_in_24, i_cl_24, i_in_25, i_cl_25, i_in_26, i_cl_26, i_in_27, i_cl_27, i_in_28, i_cl_28, i_in_29, i_cl_29, i_in_30, i_cl_30, i_in_31, i_cl_31, i_in_32, i_cl_32, i_in_33, i_cl_33, q_X2_init_0, e_naL (c := 3) (M := 3) rfl (by decide), e_nqL (c := 14) (M := 14) rfl (by decide), false_implies, true_implies, implies_true, not_true_eq_false, not_false_eq_true, true_or, or_true, and_self, and_assoc, Option.some.injEq, Sum.inl.injEq, Sum.inr.injEq, Prod.mk.injEq, Value.int.injEq, Value.ref.injEq, Value.long.injEq, true_and, and_true, exists_and_left, exists_and_right, exists_eq_left, exists_eq_left', List.getElem?_cons_zero, List.getElem?_cons_succ, List.length_cons, List.length_nil, List.set_cons_zero, List.set_cons_succ, Option.toList, List.cons_append, List.nil_append, List.append_nil, Nat.zero_add, Nat.le_refl, Nat.zero_le, beq_self_eq_true, Option.isNone_none]
  refine mh_ex (c_J7_fill (n := 3) (by decide) ((gB_in (by decide)).trans rfl)) (Nat.le_of_ble_eq_true rfl) (Nat.le_of_ble_eq_true rfl) (Nat.le_of_ble_eq_true rfl) (Nat.le_of_ble_eq_true rfl) ?_
  simp +decide only [e_push, e_il, e_ll, e_al, e_is, e_ls, e_as, e_asN, e_inc, e_bin, e_un, e_div, e_i2l, e_l2i, e_binL, e_lneg, e_lcmp, e_dup, e_dup2, e_pop, e_if1, e_if2, e_ifnN, e_ifnR, e_sw, e_sw0, e_sw1, e_gi, e_gr, e_pi, e_pz, e_pr, e_ald, e_lald, e_aald, e_tald, e_alen, e_tlen, e_ast, e_last, e_aast, e_new, e_oi, e_cv, e_cvS, e_ci, e_cs, e_pop0, e_popS, e_iret, e_zret, e_cret, e_bret, e_aret, e_aretN, e_vret, e_gs, e_ac, e_mm, e_ma, e_ldcs, e_gcs, e_gfm, e_gsV, e_gsC, e_bln, e_bld, mh_get, mh_set, mh_one, mh_two, Value.category, mh_po, mh_mc, mh_ms, mh_d, gB_1, gB_new, gB_put, gB_put0, gB_in, gB_in0, gB_gB, jn_lt, jn_ge, va_up_self, va_up_ne, i_in_0, i_cl_0, i_in_1, i_cl_1, i_in_2, i_cl_2, i_in_3, i_cl_3, i_in_4, i_cl_4, i_in_5, i_cl_5, i_in_6, i_cl_6, i_in_7, i_cl_7, i_in_8, i_cl_8, i_in_9, i_cl_9, i_in_10, i_cl_10, i_in_11, i_cl_11, i_in_12, i_cl_12, i_in_13, i_cl_13, i_in_14, i_cl_14, i_in_15, i_cl_15, i_in_16, i_cl_16, i_in_17, i_cl_17, i_in_18, i_cl_18, i_in_19, i_cl_19, i_in_20, i_cl_20, i_in_21, i_cl_21, i_in_22, i_cl_22, i_in_23, i_cl_23, i_in_24, i_cl_24, i_in_25, i_cl_25, i_in_26, i_cl_26, i_in_27, i_cl_27, i_in_28, i_cl_28, i_in_29, i_cl_29, i_in_30, i_cl_30, i_in_31, i_cl_31, i_in_32, i_cl_32, i_in_33, i_cl_33, false_implies, true_implies, implies_true, not_true_eq_false, not_false_eq_true, true_or, or_true, and_self, and_assoc, Option.some.injEq, Sum.inl.injEq, Sum.inr.injEq, Prod.mk.injEq, Value.int.injEq, Value.ref.injEq, Value.long.injEq, true_and, and_true, exists_and_left, exists_and_right, exists_eq_left, exists_eq_left', List.getElem?_cons_zero, List.getElem?_cons_succ, List.length_cons, List.length_nil, List.set_cons_zero, List.set_cons_succ, Option.toList, List.cons_append, List.nil_append, List.append_nil, Nat.zero_add, Nat.le_refl, Nat.zero_le, beq_self_eq_true, Option.isNone_none]
  refine gB_ext fun i hi => ?_
  rcases (show i = 0 ∨ i = 1 ∨ i = 2 by omega) with rfl | rfl | rfl <;> rfl
theorem c_X2_init (hs : H.1 = a + 1) (ha : H.2 a = some (.inr (.inl (2, [.null, .null, .int 0])))) : mh_M E 1 2 17 yX2_init [.ref a] H (fun r h' => r = none ∧ h' = gB H a 3 (kL0 a)) := by
  have := c_X2_init0 (E := E) (H := H) (a := a)
  rwa [gB_of hs ha] at this
theorem c_X5_init0 : mh_M E 2 3 33 yX5_init [.ref a] (gB H a 1 (fun _ => some (.inr (.inl (5, [.null, .null, .int 0, .int 0]))))) (fun r h' => r = none ∧ h' = gB H a 4 (kSl0 a)) := by
  refine m_X5_init [some (.ref a)] rfl (Nat.le_of_ble_eq_true rfl) ?_
  simp +decide only [e_push, e_il, e_ll, e_al, e_is, e_ls, e_as, e_asN, e_inc, e_bin, e_un, e_div, e_i2l, e_l2i, e_binL, e_lneg, e_lcmp, e_dup, e_dup2, e_pop, e_if1, e_if2, e_ifnN, e_ifnR, e_sw, e_sw0, e_sw1, e_gi, e_gr, e_pi, e_pz, e_pr, e_ald, e_lald, e_aald, e_tald, e_alen, e_tlen, e_ast, e_last, e_aast, e_new, e_oi, e_cv, e_cvS, e_ci, e_cs, e_pop0, e_popS, e_iret, e_zret, e_cret, e_bret, e_aret, e_aretN, e_vret, e_gs, e_ac, e_mm, e_ma, e_ldcs, e_gcs, e_gfm, e_gsV, e_gsC, e_bln, e_bld, mh_get, mh_set, mh_one, mh_two, Value.category, mh_po, mh_mc, mh_ms, mh_d, gB_1, gB_new, gB_put, gB_put0, gB_in, gB_in0, gB_gB, jn_lt, jn_ge, va_up_self, va_up_ne, i_in_0, i_cl_0, i_in_1, i_cl_1, i_in_2, i_cl_2, i_in_3, i_cl_3, i_in_4, i_cl_4, i_in_5, i_cl_5, i_in_6, i_cl_6, i_in_7, i_cl_7, i_in_8, i_cl_8, i_in_9, i_cl_9, i_in_10, i_cl_10, i_in_11, i_cl_11, i_in_12, i_cl_12, i_in_13, i_cl_13, i_in_14, i_cl_14, i_in_15, i_cl_15, i_in_16, i_cl_16, i_in_17, i_cl_17, i_in_18, i_cl_18, i_in_19, i_cl_19, i_in_20, i_cl_20, i_in_21, i_cl_21, i_in_22, i_cl_22, i_in_23, i_cl_23, i_in_24, i_cl_24, i_in_25, i_cl_25, i_in_26, i_cl_26, i_in_27, i_cl_27, i_in_28, i_cl_28, i_in_29, i_cl_29, i_in_30, i_cl_30, i_in_31, i_cl_31, i_in_32, i_cl_32, i_in_33, i_cl_33, q_X5_init_0, false_implies, true_implies, implies_true, not_true_eq_false, not_false_eq_true, true_or, or_true, and_self, and_assoc, Option.some.injEq, Sum.inl.injEq, Sum.inr.injEq, Prod.mk.injEq, Value.int.injEq, Value.ref.injEq, Value.long.injEq, true_and, and_true, exists_and_left, exists_and_right, exists_eq_left, exists_eq_left', List.getElem?_cons_zero, List.getElem?_cons_succ, List.length_cons, List.length_nil, List.set_cons_zero, List.set_cons_succ, Option.toList, List.cons_append, List.nil_append, List.append_nil, Nat.zero_add, Nat.le_refl, Nat.zero_le, beq_self_eq_true, Option.isNone_none]
  refine mh_en (c_X6_init1 ((gB_in (by decide)).trans rfl)) (Nat.le_of_ble_eq_true rfl) (Nat.le_of_ble_eq_true rfl) (Nat.le_of_ble_eq_true rfl) (Nat.le_of_ble_eq_true rfl) ?_
  simp +decide only [e_push, e_il, e_ll, e_al, e_is, e_ls, e_as, e_asN, e_inc, e_bin, e_un, e_div, e_i2l, e_l2i, e_binL, e_lneg, e_lcmp, e_dup, e_dup2, e_pop, e_if1, e_if2, e_ifnN, e_ifnR, e_sw, e_sw0, e_sw1, e_gi, e_gr, e_pi, e_pz, e_pr, e_ald, e_lald, e_aald, e_tald, e_alen, e_tlen, e_ast, e_last, e_aast, e_new, e_oi, e_cv, e_cvS, e_ci, e_cs, e_pop0, e_popS, e_iret, e_zret, e_cret, e_bret, e_aret, e_aretN, e_vret, e_gs, e_ac, e_mm, e_ma, e_ldcs, e_gcs, e_gfm, e_gsV, e_gsC, e_bln, e_bld, mh_get, mh_set, mh_one, mh_two, Value.category, mh_po, mh_mc, mh_ms, mh_d, gB_1, gB_new, gB_put, gB_put0, gB_in, gB_in0, gB_gB, jn_lt, jn_ge, va_up_self, va_up_ne, i_in_0, i_cl_0, i_in_1, i_cl_1, i_in_2, i_cl_2, i_in_3, i_cl_3, i_in_4, i_cl_4, i_in_5, i_cl_5, i_in_6, i_cl_6, i_in_7, i_cl_7, i_in_8, i_cl_8, i_in_9, i_cl_9, i_in_10, i_cl_10, i_in_11, i_cl_11, i_in_12, i_cl_12, i_in_13, i_cl_13, i_in_14, i_cl_14, i_in_15, i_cl_15, i_in_16, i_cl_16, i_in_17, i_cl_17, i_in_18, i_cl_18, i_in_19, i_cl_19, i_in_20, i_cl_20, i_in_21, i_cl_21, i_in_22, i_cl_22, i_in_23, i_cl_23, i_in_24, i_cl_24, i_in_25, i_cl_25, i_in_26, i_cl_26, i_in_27, i_cl_27, i_in_28, i_cl_28, i_in_29, i_cl_29, i_in_30, i_cl_30, i_in_31, i_cl_31, i_in_32, i_cl_32, i_in_33, i_cl_33, false_implies, true_implies, implies_true, not_true_eq_false, not_false_eq_true, true_or, or_true, and_self, and_assoc, Option.some.injEq, Sum.inl.injEq, Sum.inr.injEq, Prod.mk.injEq, Value.int.injEq, Value.ref.injEq, Value.long.injEq, true_and, and_true, exists_and_left, exists_and_right, exists_eq_left, exists_eq_left', List.getElem?_cons_zero, List.getElem?_cons_succ, List.length_cons, List.length_nil, List.set_cons_zero, List.set_cons_succ, Option.toList, List.cons_append, List.nil_append, List.append_nil, Nat.zero_add, Nat.le_refl, Nat.zero_le, beq_self_eq_true, Option.isNone_none]
  refine mh_en (c_X4_init (a := a + 2) rfl ((gB_in (by decide)).trans rfl)) (Nat.le_of_ble_eq_true rfl) (Nat.le_of_ble_eq_true rfl) (Nat.le_of_ble_eq_true rfl) (Nat.le_of_ble_eq_true rfl) ?_
  simp +decide only [e_push, e_il, e_ll, e_al, e_is, e_ls, e_as, e_asN, e_inc, e_bin, e_un, e_div, e_i2l, e_l2i, e_binL, e_lneg, e_lcmp, e_dup, e_dup2, e_pop, e_if1, e_if2, e_ifnN, e_ifnR, e_sw, e_sw0, e_sw1, e_gi, e_gr, e_pi, e_pz, e_pr, e_ald, e_lald, e_aald, e_tald, e_alen, e_tlen, e_ast, e_last, e_aast, e_new, e_oi, e_cv, e_cvS, e_ci, e_cs, e_pop0, e_popS, e_iret, e_zret, e_cret, e_bret, e_aret, e_aretN, e_vret, e_gs, e_ac, e_mm, e_ma, e_ldcs, e_gcs, e_gfm, e_gsV, e_gsC, e_bln, e_bld, mh_get, mh_set, mh_one, mh_two, Value.category, mh_po, mh_mc, mh_ms, mh_d, gB_1, gB_new, gB_put, gB_put0, gB_in, gB_in0, gB_gB, jn_lt, jn_ge, va_up_self, va_up_ne, i_in_0, i_cl_0, i_in_1, i_cl_1, i_in_2, i_cl_2, i_in_3, i_cl_3, i_in_4, i_cl_4, i_in_5, i_cl_5, i_in_6, i_cl_6, i_in_7, i_cl_7, i_in_8, i_cl_8, i_in_9, i_cl_9, i_in_10, i_cl_10, i_in_11, i_cl_11, i_in_12, i_cl_12, i_in_13, i_cl_13, i_in_14, i_cl_14, i_in_15, i_cl_15, i_in_16, i_cl_16, i_in_17, i_cl_17, i_in_18, i_cl_18, i_in_19, i_cl_19, i_in_20, i_cl_20, i_in_21, i_cl_21, i_in_22, i_cl_22, i_in_23, i_cl_23, i_in_24, i_cl_24, i_in_25, i_cl_25, i_in_26, i_cl_26, i_in_27, i_cl_27, i_in_28, i_cl_28, i_in_29, i_cl_29, i_in_30, i_cl_30, i_in_31, i_cl_31, i_in_32, i_cl_32, i_in_33, i_cl_33, false_implies, true_implies, implies_true, not_true_eq_false, not_false_eq_true, true_or, or_true, and_self, and_assoc, Option.some.injEq, Sum.inl.injEq, Sum.inr.injEq, Prod.mk.injEq, Value.int.injEq, Value.ref.injEq, Value.long.injEq, true_and, and_true, exists_and_left, exists_and_right, exists_eq_left, exists_eq_left', List.getElem?_cons_zero, List.getElem?_cons_succ, List.length_cons, List.length_nil, List.set_cons_zero, List.set_cons_succ, Option.toList, List.cons_append, List.nil_append, List.append_nil, Nat.zero_add, Nat.le_refl, Nat.zero_le, beq_self_eq_true, Option.isNone_none]
  refine gB_ext fun i hi => ?_
  rcases (show i = 0 ∨ i = 1 ∨ i = 2 ∨ i = 3 by omega) with rfl | rfl | rfl | rfl <;> rfl
theorem c_X5_init (hs : H.1 = a + 1) (ha : H.2 a = some (.inr (.inl (5, [.null, .null, .int 0, .int 0])))) : mh_M E 2 3 33 yX5_init [.ref a] H (fun r h' => r = none ∧ h' = gB H a 4 (kSl0 a)) := by
  have := c_X5_init0 (E := E) (H := H) (a := a)
  rwa [gB_of hs ha] at this
end INI
