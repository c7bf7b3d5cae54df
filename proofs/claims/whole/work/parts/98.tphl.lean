/-! PART 98.tphl: constructors: the model; the world at the start -/
def A0 : Nat → Nat → Int32 := fun r => match r with
  | 1 => upd (upd (upd (fun _ => 0) 0 1) 3 60) 4 40
  | 7 => (upd (upd (upd (upd (upd (upd (upd (upd (upd (upd (upd (fun _ => 0) 0 99) 1 111) 2 115) 3 116) 4 102) 5 101) 6 101) 7 102) 8 105) 9 110) 10 101)
  | 8 => (upd (upd (upd (upd (fun _ => 0) 0 0) 1 4) 2 7) 3 11)
  | 14 => (upd (upd (upd (upd (fun _ => 0) 0 (-1)) 1 (-1)) 2 (-1)) 3 (-1))
  | _ => fun _ => 0
section INL
variable {E : mh_E} {H : mh_H} {R : Nat}
set_option maxRecDepth 20000 in
set_option maxHeartbeats 2000000 in
theorem c_X10_init0 : mh_M E 1 22 5500 yX10_init [.ref R] (gB H R 1 (fun _ => some (.inr (.inl (10, [.null, .null, .null, .int 0, .null, .null, .null, .int 0, .int 0, .int 0, .int 0, .int 0, .int 0, .int 0, .null, .null, .null, .int 0, .int 0, .null, .int 0, .null, .null, .null, .null, .null, .null, .null, .null, .null, .null, .null, .null, .int 0]))))) (fun r h' => r = none ∧ h' = gB H R 23 (km R A0 (fun _ => 0) (fun _ => 0))) := by
  refine m_X10_init [some (.ref R)] rfl (Nat.le_of_ble_eq_true rfl) ?_
  simp +decide only [e_push, e_il, e_ll, e_al, e_is, e_ls, e_as, e_asN, e_inc, e_bin, e_un, e_div, e_i2l, e_l2i, e_binL, e_lneg, e_lcmp, e_dup, e_dup2, e_pop, e_if1, e_if2, e_ifnN, e_ifnR, e_sw, e_sw0, e_sw1, e_gi, e_gr, e_pi, e_pz, e_pr, e_ald, e_lald, e_aald, e_tald, e_alen, e_tlen, e_ast, e_last, e_aast, e_new, e_oi, e_cv, e_cvS, e_ci, e_cs, e_pop0, e_popS, e_iret, e_zret, e_cret, e_bret, e_aret, e_aretN, e_vret, e_gs, e_ac, e_mm, e_ma, e_ldcs, e_gcs, e_gfm, e_gsV, e_gsC, e_bln, e_bld, mh_get, mh_set, mh_one, mh_two, Value.category, mh_po, mh_mc, mh_ms, mh_d, gB_1, gB_new, gB_put, gB_put0, gB_in, gB_in0, gB_gB, jn_lt, jn_ge, va_up_self, va_up_ne, i_in_0, i_cl_0, i_in_1, i_cl_1, i_in_2, i_cl_2, i_in_3, i_cl_3, i_in_4, i_cl_4, i_in_5, i_cl_5, i_in_6, i_cl_6, i_in_7, i_cl_7, i_in_8, i_cl_8, i_in_9, i_cl_9, i_in_10, i_cl_10, i_in_11, i_cl_11, i_in_12, i_cl_12, i_in_13, i_cl_13, i_in_14, i_cl_14, i_in_15, i_cl_15, i_in_16, i_cl_16, i_in_17, i_cl_17, i_in_18, i_cl_18, i_in_19, i_cl_19, i_in_20, i_cl_20, i_in_21, i_cl_21, i_in_22, i_cl_22, i_in_23, i_cl_23, i_in_24, i_cl_24, i_in_25, i_cl_25, i_in_26, i_cl_26, i_in_27, i_cl_27, i_in_28, i_cl_28, i_in_29, i_cl_29, i_in_30, i_cl_30, i_in_31, i_cl_31, i_in_32, i_cl_32, i_in_33, i_cl_33, q_X10_init_0, e_naL (c := 1452) (M := 1452) rfl (by decide), e_naL (c := 80) (M := 80) rfl (by decide), e_nlL (c := 6) (M := 6) rfl (by decide), e_naL (c := 96) (M := 96) rfl (by decide), e_naL (c := 11) (M := 11) rfl (by decide), e_naL (c := 4) (M := 4) rfl (by decide), e_naL (c := 10) (M := 10) rfl (by decide), e_naL (c := 5) (M := 5) rfl (by decide), e_naL (c := 120) (M := 120) rfl (by decide), e_naL (c := 24) (M := 24) rfl (by decide), e_naL (c := 60) (M := 60) rfl (by decide), false_implies, true_implies, implies_true, not_true_eq_false, not_false_eq_true, true_or, or_true, and_self, and_assoc, Option.some.injEq, Sum.inl.injEq, Sum.inr.injEq, Prod.mk.injEq, Value.int.injEq, Value.ref.injEq, Value.long.injEq, true_and, and_true, exists_and_left, exists_and_right, exists_eq_left, exists_eq_left', List.getElem?_cons_zero, List.getElem?_cons_succ, List.length_cons, List.length_nil, List.set_cons_zero, List.set_cons_succ, Option.toList, List.cons_append, List.nil_append, List.append_nil, Nat.zero_add, Nat.le_refl, Nat.zero_le, beq_self_eq_true, Option.isNone_none]
  refine gB_ext fun i hi => ?_
  match i, hi with
  | 0, _ => rfl
  | 1, _ => rfl
  | 2, _ => rfl
  | 3, _ => rfl
  | 4, _ => rfl
  | 5, _ => rfl
  | 6, _ => rfl
  | 7, _ => rfl
  | 8, _ => rfl
  | 9, _ => rfl
  | 10, _ => rfl
  | 11, _ => rfl
  | 12, _ => rfl
  | 13, _ => rfl
  | 14, _ => rfl
  | 15, _ => rfl
  | 16, _ => rfl
  | 17, _ => rfl
  | 18, _ => rfl
  | 19, _ => rfl
  | 20, _ => rfl
  | 21, _ => rfl
  | 22, _ => rfl
  | j + 23, hj => exact absurd hj (by omega)
theorem c_X10_init (hs : H.1 = R + 1) (ha : H.2 R = some (.inr (.inl (10, [.null, .null, .null, .int 0, .null, .null, .null, .int 0, .int 0, .int 0, .int 0, .int 0, .int 0, .int 0, .null, .null, .null, .int 0, .int 0, .null, .int 0, .null, .null, .null, .null, .null, .null, .null, .null, .null, .null, .null, .null, .int 0])))) : mh_M E 1 22 5500 yX10_init [.ref R] H (fun r h' => r = none ∧ h' = gB H R 23 (km R A0 (fun _ => 0) (fun _ => 0))) := by
  have := c_X10_init0 (E := E) (H := H) (R := R)
  rwa [gB_of hs ha] at this
end INL
theorem bS_T {P : Nat → Prop} (h : ∀ j, j < 6 → P j) : bS P = 63 := by
  have e : bS P = bS (fun _ => True) := bS_ext fun j hj => ⟨fun _ => trivial, fun _ => h j hj⟩
  rw [e, bS]
  simp [bitsN, cI]
  rfl
theorem wC_0 {D : tDT} : wC D V0 X0 (A0 1) := by
  have z8 : ∀ q, 8 ≤ q → A0 1 q = 0 := fun q hq => by
    show upd (upd (upd (fun _ => 0) 0 1) 3 60) 4 40 q = 0
    rw [upd, if_neg (by omega), upd, if_neg (by omega), upd, if_neg (by omega)]
  refine ⟨0, 0, 0, ⟨⟨rfl, rfl, by decide⟩, ⟨rfl, rfl⟩, ⟨rfl, rfl⟩, rfl, fun _ => ⟨rfl, rfl⟩, ⟨fun p hp => ?_, fun p hp => ⟨0, by decide, z8 _ (by omega)⟩, fun p hp => ⟨0, by decide, z8 _ (by omega)⟩, fun q hq => ?_, fun r hr => ?_⟩, fun i hi => absurd hi (Nat.not_lt_zero i), rfl, fun key hk => ?_, fun t ht => absurd ht (Nat.not_lt_zero t), rfl, by decide, fun t ht => absurd ht (Nat.not_lt_zero t)⟩, by decide, ⟨0, rfl, by decide⟩, fun t ht h0 => ?_⟩
  · exact ⟨(z8 _ (by omega)).symm, (z8 _ (by omega)).symm⟩
  · show upd (fun _ => 0) 0 63 q = _
    by_cases e : q = 0
    · subst e
      rw [upd, if_pos rfl]
      exact (bS_T fun j hj => z8 _ (by omega)).symm
    · rw [upd, if_neg e]
      refine (bS_0.mpr fun j hj z => ?_).symm
      rw [z8 _ (by omega)] at z
      exact e ((nI_eq (a := 0) (by decide) (by omega)).mp z).symm
  · show upd (fun _ => 0) 0 63 r = _
    by_cases e : r = 0
    · subst e
      rw [upd, if_pos rfl]
      exact (bS_T fun j hj => by rw [z8 _ (by omega)]; decide).symm
    · rw [upd, if_neg e]
      refine (bS_0.mpr fun j hj z => ?_).symm
      rw [z8 _ (by omega)] at z
      exact nI_ge (a := 0) (b := r) (by omega) (by omega) z
  · show fiN (fun _ => 0) (-1000000005) 3 key = cI (0 ≤ (-1 : Int32)) _ _
    rw [fiN, if_pos hk, cI_f (by decide)]
  · exact absurd (by rw [z8 _ (by omega)]; decide) h0
theorem wQ_0 {D : tDT} : wQ D G0 Y0 A0 (fun _ => 0) := by
  refine ⟨?_, ⟨rfl, Or.inl rfl⟩, ⟨0, by decide, rfl, rfl, fun j hj => absurd hj (Nat.not_lt_zero j)⟩, ⟨0, by decide, rfl, rfl, fun j hj => absurd hj (Nat.not_lt_zero j)⟩, fun s hs => ?_, fun q hq => ?_, ?_, ?_⟩
  · obtain ⟨m, T, y, c, hy, hb⟩ := wC_0 (D := D)
    refine ⟨m, T, y, c.ext fun i hi => ?_, hy, hb⟩
    show G0 (1 + i) = V0 i
    rw [G0, if_neg (by omega), if_pos (by omega), show 1 + i - 1 = i by omega]
  · rcases (show s = 0 ∨ s = 1 ∨ s = 2 ∨ s = 3 by omega) with rfl | rfl | rfl | rfl <;> exact ⟨rfl, Or.inl rfl, ⟨0, by decide, rfl, rfl⟩, fun k hk => ⟨rfl, Or.inr ⟨by show (-99999 : Int32) ≤ 0; decide, by show (0 : Int32) ≤ 99999; decide⟩⟩⟩
  · rcases (show q = 0 ∨ q = 1 ∨ q = 2 ∨ q = 3 ∨ q = 4 by omega) with rfl | rfl | rfl | rfl | rfl <;> exact ⟨rfl, Or.inl rfl, fun z => absurd (show (0 : Int32) = 1 from z) (by decide), fun z => absurd (show (0 : Int32) = 2 from z) (by decide), fun z => absurd (show (0 : Int32) = 3 from z) (by decide)⟩
  · decide +kernel
  · decide +kernel
/-- the world at the start: the class at R, the model at R + 101 -/
theorem wR_0 {E : mh_E} {h : mh_H} (hB : E.2.2.2.2.1 < h.1) (hB2 : h.2 E.2.2.2.2.1 = some (.inr (.inr (6, ab)))) : ∃ (h1 : mh_H) (D : tDT), gB (gB h h.1 101 (kA h.1 G0 Y0)) (h.1 + 101) 23 (km (h.1 + 101) A0 (fun _ => 0) (fun _ => 0)) = hW h1 h.1 G0 Y0 A0 (fun _ => 0) (fun _ => 0) ∧ wR E h.1 D h1 G0 Y0 A0 (fun _ => 0) ∧ h1.1 = h.1 + 124 ∧ ∀ q, q < h.1 → h1.2 q = h.2 q := by
  refine ⟨(h.1 + 124, h.2), fun _ => none, ?_, ⟨wQ_0, show tX (fun _ => none) _ _ from fun a d hD => absurd hD (by simp), ⟨hB, hB2⟩, Nat.le_refl _⟩, rfl, fun _ _ => rfl⟩
  refine Prod.ext (by show h.1 + 101 + 23 = h.1 + 124; omega) (funext fun q => ?_)
  by_cases e1 : h.1 + 101 ≤ q ∧ q < h.1 + 101 + 23
  · have e2 : ¬ (h.1 ≤ q ∧ q < h.1 + 101) := by omega
    simp only [gB, hW, hA, hM, ov, e1, e2, and_self, if_true, if_false]
  · simp only [gB, hW, hA, hM, ov, e1, if_false]
