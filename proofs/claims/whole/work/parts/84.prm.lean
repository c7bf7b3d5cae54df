/-! PART 84: Gathering: where people would have to be -/
/-- the SQUARE of a person in the i-th way -/
def dg (i p : Nat) : Nat := i / 4 ^ (5 - p) % 4
theorem dg_lt (i p : Nat) : dg i p < 4 := Nat.mod_lt _ (by decide)
section HG
variable {h : mh_H} {R : Nat} {G : Nat → Nat → Int32} {Y : Nat → Nat → Option Nat} {f : Nat → Int32} {x : Int32}
theorem hA_g1 : (hA h R G Y).2 (R + 61 + 1) = some (.inl (0, 256, .inl (G 62))) := hA_in (i := 62) (by decide)
theorem hA_g2 : (hA h R G Y).2 (R + 61 + 2) = some (.inl (0, 4, .inl (G 63))) := hA_in (i := 63) (by decide)
theorem hA_g3 : (hA h R G Y).2 (R + 61 + 3) = some (.inl (0, 6, .inl (G 64))) := hA_in (i := 64) (by decide)
theorem hA_g4 : (hA h R G Y).2 (R + 61 + 4) = some (.inl (0, 6, .inl (G 65))) := hA_in (i := 65) (by decide)
theorem hA_pg0 : mh_put (hA h R G Y) (R + 61) (.inr (.inl (1, [.ref (R + 61 + 1), .ref (R + 61 + 2), .ref (R + 61 + 3), .ref (R + 61 + 4), .int x]))) = hA h R (va_up G 61 (fun _ => x)) Y := hA_put (i := 61) (by decide) rfl
theorem hA_pg1 : mh_put (hA h R G Y) (R + 61 + 1) (.inl (0, 256, .inl f)) = hA h R (va_up G 62 f) Y := hA_put (i := 62) (by decide) rfl
theorem hA_pg2 : mh_put (hA h R G Y) (R + 61 + 2) (.inl (0, 4, .inl f)) = hA h R (va_up G 63 f) Y := hA_put (i := 63) (by decide) rfl
theorem hA_pg3 : mh_put (hA h R G Y) (R + 61 + 3) (.inl (0, 6, .inl f)) = hA h R (va_up G 64 f) Y := hA_put (i := 64) (by decide) rfl
theorem hA_pg4 : mh_put (hA h R G Y) (R + 61 + 4) (.inl (0, 6, .inl f)) = hA h R (va_up G 65 f) Y := hA_put (i := 65) (by decide) rfl
end HG
theorem i_bit : ∀ S, S < 1024 → ∀ i, i < 10 → mh_shr (nI S) (nI i) &&& 1 = nI (S / 2 ^ i % 2) := by decide +kernel
theorem i_63 : ∀ k, k < 64 → nI k &&& 63 = nI k := by decide +kernel
theorem bit_iff (P : Nat → Prop) {m i : Nat} (hi : i < m) : bitsN P m / 2 ^ i % 2 = 1 ↔ P i := by
  have h := tbN P m i
  rw [Nat.testBit_eq_decide_div_mod_eq, decide_eq_true_iff] at h
  exact h.trans ⟨fun z => z.2, fun z => ⟨hi, z⟩⟩
theorem i_m1s (a b : Int32) : a - b + -1 = a - (b + 1) := by grind
theorem dg0 (p : Nat) : dg 0 p = 0 := by simp [dg]
/-- the digits go on -/
theorem dg_step {i p : Nat} (hp : p < 6) (hc : (i + 1) % 4 ^ (5 - p) = 0) : (dg i p + 1) % 4 = dg (i + 1) p ∧ (dg (i + 1) p = 0 ↔ (i + 1) % 4 ^ (6 - p) = 0) ∧ (¬ dg (i + 1) p = 0 → ∀ q, q < p → dg i q = dg (i + 1) q) := by
  unfold dg
  rcases (show p = 0 ∨ p = 1 ∨ p = 2 ∨ p = 3 ∨ p = 4 ∨ p = 5 by omega) with rfl | rfl | rfl | rfl | rfl | rfl
  · have e1 : (4 : Nat) ^ (5 - 0) = 1024 := rfl
    have e2 : (4 : Nat) ^ (6 - 0) = 4096 := rfl
    rw [e1] at *
    rw [e2]
    exact ⟨by omega, by omega, fun _ q hq => by omega⟩
  · have e1 : (4 : Nat) ^ (5 - 1) = 256 := rfl
    have e2 : (4 : Nat) ^ (6 - 1) = 1024 := rfl
    rw [e1] at *
    rw [e2]
    refine ⟨by omega, by omega, fun z q hq => ?_⟩
    rcases (show q = 0 by omega) with rfl
    rw [show (4 : Nat) ^ (5 - 0) = 1024 from rfl]
    omega
  · have e1 : (4 : Nat) ^ (5 - 2) = 64 := rfl
    have e2 : (4 : Nat) ^ (6 - 2) = 256 := rfl
    rw [e1] at *
    rw [e2]
    refine ⟨by omega, by omega, fun z q hq => ?_⟩
    rcases (show q = 0 ∨ q = 1 by omega) with rfl | rfl
    · rw [show (4 : Nat) ^ (5 - 0) = 1024 from rfl]; omega
    · rw [show (4 : Nat) ^ (5 - 1) = 256 from rfl]; omega
  · have e1 : (4 : Nat) ^ (5 - 3) = 16 := rfl
    have e2 : (4 : Nat) ^ (6 - 3) = 64 := rfl
    rw [e1] at *
    rw [e2]
    refine ⟨by omega, by omega, fun z q hq => ?_⟩
    rcases (show q = 0 ∨ q = 1 ∨ q = 2 by omega) with rfl | rfl | rfl
    · rw [show (4 : Nat) ^ (5 - 0) = 1024 from rfl]; omega
    · rw [show (4 : Nat) ^ (5 - 1) = 256 from rfl]; omega
    · rw [show (4 : Nat) ^ (5 - 2) = 64 from rfl]; omega
  · have e1 : (4 : Nat) ^ (5 - 4) = 4 := rfl
    have e2 : (4 : Nat) ^ (6 - 4) = 16 := rfl
    rw [e1] at *
    rw [e2]
    refine ⟨by omega, by omega, fun z q hq => ?_⟩
    rcases (show q = 0 ∨ q = 1 ∨ q = 2 ∨ q = 3 by omega) with rfl | rfl | rfl | rfl
    · rw [show (4 : Nat) ^ (5 - 0) = 1024 from rfl]; omega
    · rw [show (4 : Nat) ^ (5 - 1) = 256 from rfl]; omega
    · rw [show (4 : Nat) ^ (5 - 2) = 64 from rfl]; omega
    · rw [show (4 : Nat) ^ (5 - 3) = 16 from rfl]; omega
  · have e1 : (4 : Nat) ^ (5 - 5) = 1 := rfl
    have e2 : (4 : Nat) ^ (6 - 5) = 4 := rfl
    rw [e1] at *
    rw [e2]
    refine ⟨by omega, by omega, fun z q hq => ?_⟩
    rcases (show q = 0 ∨ q = 1 ∨ q = 2 ∨ q = 3 ∨ q = 4 by omega) with rfl | rfl | rfl | rfl | rfl
    · rw [show (4 : Nat) ^ (5 - 0) = 1024 from rfl]; omega
    · rw [show (4 : Nat) ^ (5 - 1) = 256 from rfl]; omega
    · rw [show (4 : Nat) ^ (5 - 2) = 64 from rfl]; omega
    · rw [show (4 : Nat) ^ (5 - 3) = 16 from rfl]; omega
    · rw [show (4 : Nat) ^ (5 - 4) = 4 from rfl]; omega
/-- squares and crowds of a way -/
def sqR (sq : Nat → Nat) (f g : Nat → Int32) : Prop := (∀ p, p < 6 → f p = nI (sq p)) ∧ (∀ p, p < 6 → sq p < 4) ∧ ∀ q, q < 4 → g q = bS (fun p => sq p = q)
/-- one goes to another SQUARE -/
theorem sqR.move {sq : Nat → Nat} {f g : Nat → Int32} {p n : Nat} (h : sqR sq f g) (hp : p < 6) (hn : n < 4) : sqR (fun j => if j = p then n else sq j) (upd f p (nI n)) (upd (upd g (sq p) (g (sq p) &&& (mh_shl 1 (nI p) ^^^ (-1)))) n (upd g (sq p) (g (sq p) &&& (mh_shl 1 (nI p) ^^^ (-1))) n ||| mh_shl 1 (nI p))) := by
  obtain ⟨h1, h2, h3⟩ := h
  refine ⟨fun j hj => ?_, fun j hj => ?_, fun q hq => ?_⟩
  · dsimp only
    by_cases e : j = p
    · subst e; rw [pk_us, if_pos rfl]
    · rw [pk_un e, if_neg e, h1 j hj]
  · dsimp only
    by_cases e : j = p
    · rw [if_pos e]; exact hn
    · rw [if_neg e]; exact h2 j hj
  · have hs := h2 p hp
    have e0 : ∀ q, q < 4 → upd g (sq p) (g (sq p) &&& (mh_shl 1 (nI p) ^^^ (-1))) q = bS (fun j => sq j = q ∧ ¬ j = p) := fun q hq => by
      by_cases e : q = sq p
      · rw [e, pk_us, h3 _ hs, bS_clr hp]
      · rw [pk_un e, h3 q hq]
        refine bS_ext fun j hj => ⟨fun z => ⟨z, fun z2 => e (by rw [← z, z2])⟩, fun z => z.1⟩
    by_cases e : q = n
    · subst e
      rw [pk_us, e0 q hq, bS_or hp]
      refine bS_ext fun j hj => ?_
      by_cases ej : j = p
      · subst ej; simp
      · simp [ej]
    · rw [pk_un e, e0 q hq]
      refine bS_ext fun j hj => ?_
      by_cases ej : j = p
      · subst ej
        simp
        exact fun z => e z.symm
      · simp [ej]
theorem sqR.congr {sq sq' : Nat → Nat} {f g : Nat → Int32} (h : sqR sq f g) (e : ∀ p, p < 6 → sq p = sq' p) : sqR sq' f g := by
  obtain ⟨h1, h2, h3⟩ := h
  exact ⟨fun p hp => by rw [← e p hp]; exact h1 p hp, fun p hp => by rw [← e p hp]; exact h2 p hp, fun q hq => by rw [h3 q hq]; exact bS_ext fun j hj => by rw [e j hj]⟩
section PRM
variable {E : mh_E} {R s q : Nat} {v w x : Int32} {h h0 h1 : mh_H} {D : tDT} {G G' G2 : Nat → Nat → Int32} {Y Y' Y2 : Nat → Nat → Option Nat} {A B A' : Nat → Nat → Int32} {L : Nat → Int64} {F F' N M g' cc : Nat → Int32} {V : Nat → Nat → Int32} {X : Nat → Option Nat} {p : Prop} {m T y n i : Nat}
theorem c_X1_goOn (hs : sqR (dg i) (G 64) (G 63)) : mh_M E 1 0 0 yX1_goOn [.ref (R + 61)] (hA h R G Y) (fun r h' => r = none ∧ ∃ f g, h' = hA h R (va_up (va_up G 63 g) 64 f) Y ∧ sqR (dg (i + 1)) f g) := by
  generalize hPo : (fun (r : Option Value) (h' : mh_H) => r = none ∧ ∃ f g, h' = hA h R (va_up (va_up G 63 g) 64 f) Y ∧ sqR (dg (i + 1)) f g) = Po
  refine m_X1_goOn [some (.ref (R + 61)), none, none, none] rfl (Nat.le_of_ble_eq_true rfl) ?_
  simp +decide only [e_push, e_il, e_ll, e_al, e_is, e_ls, e_as, e_asN, e_inc, e_bin, e_un, e_div, e_i2l, e_l2i, e_binL, e_lneg, e_lcmp, e_dup, e_dup2, e_pop, e_if1, e_if2, e_ifnN, e_ifnR, e_sw, e_sw0, e_sw1, e_gi, e_gr, e_pi, e_pz, e_pr, e_ald, e_lald, e_aald, e_tald, e_alen, e_tlen, e_ast, e_last, e_aast, e_newa, e_newl, e_newq, e_new, e_oi, e_cv, e_cvS, e_ci, e_cs, e_pop0, e_popS, e_iret, e_zret, e_cret, e_bret, e_aret, e_aretN, e_vret, e_gs, e_ac, e_mm, e_ma, e_ldcs, e_gcs, e_gfm, e_gsV, e_gsC, e_bln, e_bld, mh_get, mh_set, mh_one, mh_two, Value.category, mh_po, mh_mc, mh_ms, mh_d, hA_0, hA_n0, hA_n1, hA_n6, hA_n7, hA_i0, hA_m0, hA_m1, hA_m6, hA_g0, hA_t0, hA_69, hA_70, hA_71, hA_72, hA_p0, hA_pn, hA_pm, hA_p71, hA_p72, hA_now, hA_img, hA_mnd, va_up_self, va_up_ne, bx_uu, g2_9, g2_10, g10_3, g10_4, g10_5, g10_6, g10_7, g10_8, g10_9, i_in_0, i_cl_0, i_in_1, i_cl_1, i_in_2, i_cl_2, i_in_3, i_cl_3, i_in_4, i_cl_4, i_in_5, i_cl_5, i_in_6, i_cl_6, i_in_7, i_cl_7, i_in_8, i_cl_8, i_in_9, i_cl_9, i_in_10, i_cl_10, i_in_11, i_cl_11, i_in_12, i_cl_12, i_in_13, i_cl_13, i_in_14, i_cl_14, i_in_15, i_cl_15, i_in_16, i_cl_16, i_in_17, i_cl_17, i_in_18, i_cl_18, i_in_19, i_cl_19, i_in_20, i_cl_20, i_in_21, i_cl_21, i_in_22, i_cl_22, i_in_23, i_cl_23, i_in_24, i_cl_24, i_in_25, i_cl_25, i_in_26, i_cl_26, i_in_27, i_cl_27, i_in_28, i_cl_28, i_in_29, i_cl_29, i_in_30, i_cl_30, i_in_31, i_cl_31, i_in_32, i_cl_32, i_in_33, i_cl_33, q_X1_goOn_0, false_implies, true_implies, implies_true, not_true_eq_false, not_false_eq_true, true_or, or_true, and_self, and_assoc, Option.some.injEq, Sum.inl.injEq, Sum.inr.injEq, Prod.mk.injEq, Value.int.injEq, Value.ref.injEq, Value.long.injEq, true_and, and_true, exists_and_left, exists_and_right, exists_eq_left, exists_eq_left', List.getElem?_cons_zero, List.getElem?_cons_succ, List.length_cons, List.length_nil, List.set_cons_zero, List.set_cons_succ, Option.toList, List.cons_append, List.nil_append, List.append_nil, Nat.zero_add, Nat.le_refl, Nat.zero_le, beq_self_eq_true, Option.isNone_none]
  have fin : ∀ f g, sqR (dg (i + 1)) f g → Po none (hA h R (va_up (va_up G 63 g) 64 f) Y) := fun f g z => by rw [← hPo]; exact ⟨rfl, f, g, rfl, z⟩
  refine mh_for 6 (fun t lv h' => ∃ f g c o, lv = [some (.ref (R + 61)), some (.int c), some (.int (nI 5 - nI t)), o] ∧ h' = hA h R (va_up (va_up G 63 g) 64 f) Y ∧ ((c = 1 ∧ (i + 1) % 4 ^ t = 0 ∧ sqR (fun j => if j + t < 6 then dg i j else dg (i + 1) j) f g) ∨ (c = 0 ∧ sqR (dg (i + 1)) f g))) ?_ ?_ _ _ ⟨G 64, G 63, 1, none, rfl, ?_, Or.inl ⟨rfl, Nat.mod_one _, hs.congr (fun p hp => by rw [if_pos (by omega)])⟩⟩
  · rintro t _ _ ht ⟨f, g, c, o, rfl, rfl, hcs⟩ ih
    refine b_X1_goOn_4 _ _ _ _ _ ?_
    have hpt : nI 5 - nI t = nI (5 - t) := pk_sub (by omega)
    rcases hcs with ⟨rfl, hc, hq⟩ | ⟨rfl, hq⟩
    · have hp6 : 5 - t < 6 := by omega
      have hn0 : ¬ nI (5 - t) < 0 := nI_pos (by omega)
      have hv : vp_in (nI (5 - t)) 6 := vp_in_nI hp6 (by decide)
      have hcl : (nI (5 - t)).toNatClampNeg = 5 - t := nI_clamp (by omega)
      have hsq : (if 5 - t + t < 6 then dg i (5 - t) else dg (i + 1) (5 - t)) = dg i (5 - t) := if_pos (by omega)
      have hf : f (5 - t) = nI (dg i (5 - t)) := by
        have := hq.1 _ hp6
        dsimp only at this
        rw [this, hsq]
      have hd := dg_lt i (5 - t)
      have hvd : vp_in (nI (dg i (5 - t))) 4 := vp_in_nI hd (by decide)
      have hcd : (nI (dg i (5 - t))).toNatClampNeg = dg i (5 - t) := nI_clamp (by omega)
      obtain ⟨s1, s2, s3⟩ := dg_step (i := i) hp6 (by rw [show 5 - (5 - t) = t by omega]; exact hc)
      have hr : mh_rem (nI (dg i (5 - t)) + 1) 4 = nI (dg (i + 1) (5 - t)) := by rw [nI_1, ← s1]; exact i_rem (by omega) (by decide) (by decide)
      have hd' := dg_lt (i + 1) (5 - t)
      have hvn : vp_in (nI (dg (i + 1) (5 - t))) 4 := vp_in_nI hd' (by decide)
      have hcn : (nI (dg (i + 1) (5 - t))).toNatClampNeg = dg (i + 1) (5 - t) := nI_clamp (by omega)
      have e63 : ∀ f g, va_up (va_up G 63 g) 64 f 63 = g := fun f g => by rw [va_up_ne _ _ (by decide), va_up_self]
      have ecm : ∀ f g g', va_up (va_up (va_up G 63 g) 64 f) 63 g' = va_up (va_up G 63 g') 64 f := fun f g g' => by rw [up_comm (by decide), bx_uu]
      have hmv := hq.move (p := 5 - t) (n := dg (i + 1) (5 - t)) hp6 hd'
      simp only [hsq] at hmv
      rw [hpt]
      simp +decide only [e_push, e_il, e_ll, e_al, e_is, e_ls, e_as, e_asN, e_inc, e_bin, e_un, e_div, e_i2l, e_l2i, e_binL, e_lneg, e_lcmp, e_dup, e_dup2, e_pop, e_if1, e_if2, e_ifnN, e_ifnR, e_sw, e_sw0, e_sw1, e_gi, e_gr, e_pi, e_pz, e_pr, e_ald, e_lald, e_aald, e_tald, e_alen, e_tlen, e_ast, e_last, e_aast, e_newa, e_newl, e_newq, e_new, e_oi, e_cv, e_cvS, e_ci, e_cs, e_pop0, e_popS, e_iret, e_zret, e_cret, e_bret, e_aret, e_aretN, e_vret, e_gs, e_ac, e_mm, e_ma, e_ldcs, e_gcs, e_gfm, e_gsV, e_gsC, e_bln, e_bld, mh_get, mh_set, mh_one, mh_two, Value.category, mh_po, mh_mc, mh_ms, mh_d, hA_0, hA_n0, hA_n1, hA_n6, hA_n7, hA_i0, hA_m0, hA_m1, hA_m6, hA_g0, hA_t0, hA_69, hA_70, hA_71, hA_72, hA_p0, hA_pn, hA_pm, hA_p71, hA_p72, hA_now, hA_img, hA_mnd, va_up_self, va_up_ne, bx_uu, g2_9, g2_10, g10_3, g10_4, g10_5, g10_6, g10_7, g10_8, g10_9, i_in_0, i_cl_0, i_in_1, i_cl_1, i_in_2, i_cl_2, i_in_3, i_cl_3, i_in_4, i_cl_4, i_in_5, i_cl_5, i_in_6, i_cl_6, i_in_7, i_cl_7, i_in_8, i_cl_8, i_in_9, i_cl_9, i_in_10, i_cl_10, i_in_11, i_cl_11, i_in_12, i_cl_12, i_in_13, i_cl_13, i_in_14, i_cl_14, i_in_15, i_cl_15, i_in_16, i_cl_16, i_in_17, i_cl_17, i_in_18, i_cl_18, i_in_19, i_cl_19, i_in_20, i_cl_20, i_in_21, i_cl_21, i_in_22, i_cl_22, i_in_23, i_cl_23, i_in_24, i_cl_24, i_in_25, i_cl_25, i_in_26, i_cl_26, i_in_27, i_cl_27, i_in_28, i_cl_28, i_in_29, i_cl_29, i_in_30, i_cl_30, i_in_31, i_cl_31, i_in_32, i_cl_32, i_in_33, i_cl_33, q_X1_goOn_4, hn0, hA_g2, hA_g3, hv, hcl, hf, false_implies, true_implies, implies_true, not_true_eq_false, not_false_eq_true, true_or, or_true, and_self, and_assoc, Option.some.injEq, Sum.inl.injEq, Sum.inr.injEq, Prod.mk.injEq, Value.int.injEq, Value.ref.injEq, Value.long.injEq, true_and, and_true, exists_and_left, exists_and_right, exists_eq_left, exists_eq_left', List.getElem?_cons_zero, List.getElem?_cons_succ, List.length_cons, List.length_nil, List.set_cons_zero, List.set_cons_succ, Option.toList, List.cons_append, List.nil_append, List.append_nil, Nat.zero_add, Nat.le_refl, Nat.zero_le, beq_self_eq_true, Option.isNone_none]
      refine mh_ex (c_X9_isSquare) (Nat.le_of_ble_eq_true rfl) (Nat.le_of_ble_eq_true rfl) (Nat.le_of_ble_eq_true rfl) (Nat.le_of_ble_eq_true rfl) ?_
      simp +decide only [e_push, e_il, e_ll, e_al, e_is, e_ls, e_as, e_asN, e_inc, e_bin, e_un, e_div, e_i2l, e_l2i, e_binL, e_lneg, e_lcmp, e_dup, e_dup2, e_pop, e_if1, e_if2, e_ifnN, e_ifnR, e_sw, e_sw0, e_sw1, e_gi, e_gr, e_pi, e_pz, e_pr, e_ald, e_lald, e_aald, e_tald, e_alen, e_tlen, e_ast, e_last, e_aast, e_newa, e_newl, e_newq, e_new, e_oi, e_cv, e_cvS, e_ci, e_cs, e_pop0, e_popS, e_iret, e_zret, e_cret, e_bret, e_aret, e_aretN, e_vret, e_gs, e_ac, e_mm, e_ma, e_ldcs, e_gcs, e_gfm, e_gsV, e_gsC, e_bln, e_bld, mh_get, mh_set, mh_one, mh_two, Value.category, mh_po, mh_mc, mh_ms, mh_d, hA_0, hA_n0, hA_n1, hA_n6, hA_n7, hA_i0, hA_m0, hA_m1, hA_m6, hA_g0, hA_t0, hA_69, hA_70, hA_71, hA_72, hA_p0, hA_pn, hA_pm, hA_p71, hA_p72, hA_now, hA_img, hA_mnd, va_up_self, va_up_ne, bx_uu, g2_9, g2_10, g10_3, g10_4, g10_5, g10_6, g10_7, g10_8, g10_9, i_in_0, i_cl_0, i_in_1, i_cl_1, i_in_2, i_cl_2, i_in_3, i_cl_3, i_in_4, i_cl_4, i_in_5, i_cl_5, i_in_6, i_cl_6, i_in_7, i_cl_7, i_in_8, i_cl_8, i_in_9, i_cl_9, i_in_10, i_cl_10, i_in_11, i_cl_11, i_in_12, i_cl_12, i_in_13, i_cl_13, i_in_14, i_cl_14, i_in_15, i_cl_15, i_in_16, i_cl_16, i_in_17, i_cl_17, i_in_18, i_cl_18, i_in_19, i_cl_19, i_in_20, i_cl_20, i_in_21, i_cl_21, i_in_22, i_cl_22, i_in_23, i_cl_23, i_in_24, i_cl_24, i_in_25, i_cl_25, i_in_26, i_cl_26, i_in_27, i_cl_27, i_in_28, i_cl_28, i_in_29, i_cl_29, i_in_30, i_cl_30, i_in_31, i_cl_31, i_in_32, i_cl_32, i_in_33, i_cl_33, zB_t (cc_q hd), hA_g2, hA_g3, hv, hcl, hf, hr, hvd, hcd, hvn, hcn, e63, hA_pg2, hA_pg3, ecm, false_implies, true_implies, implies_true, not_true_eq_false, not_false_eq_true, true_or, or_true, and_self, and_assoc, Option.some.injEq, Sum.inl.injEq, Sum.inr.injEq, Prod.mk.injEq, Value.int.injEq, Value.ref.injEq, Value.long.injEq, true_and, and_true, exists_and_left, exists_and_right, exists_eq_left, exists_eq_left', List.getElem?_cons_zero, List.getElem?_cons_succ, List.length_cons, List.length_nil, List.set_cons_zero, List.set_cons_succ, Option.toList, List.cons_append, List.nil_append, List.append_nil, Nat.zero_add, Nat.le_refl, Nat.zero_le, beq_self_eq_true, Option.isNone_none]
      have hm1 : nI (5 - t) + -1 = nI 5 - nI (t + 1) := by
        rw [← hpt, i_m1s, ← nI_succ]
      refine ⟨fun z => ?_, fun z => ?_⟩
      · have z0 : ¬ dg (i + 1) (5 - t) = 0 := fun q => z (by rw [q]; rfl)
        simp +decide only [e_push, e_il, e_ll, e_al, e_is, e_ls, e_as, e_asN, e_inc, e_bin, e_un, e_div, e_i2l, e_l2i, e_binL, e_lneg, e_lcmp, e_dup, e_dup2, e_pop, e_if1, e_if2, e_ifnN, e_ifnR, e_sw, e_sw0, e_sw1, e_gi, e_gr, e_pi, e_pz, e_pr, e_ald, e_lald, e_aald, e_tald, e_alen, e_tlen, e_ast, e_last, e_aast, e_newa, e_newl, e_newq, e_new, e_oi, e_cv, e_cvS, e_ci, e_cs, e_pop0, e_popS, e_iret, e_zret, e_cret, e_bret, e_aret, e_aretN, e_vret, e_gs, e_ac, e_mm, e_ma, e_ldcs, e_gcs, e_gfm, e_gsV, e_gsC, e_bln, e_bld, mh_get, mh_set, mh_one, mh_two, Value.category, mh_po, mh_mc, mh_ms, mh_d, hA_0, hA_n0, hA_n1, hA_n6, hA_n7, hA_i0, hA_m0, hA_m1, hA_m6, hA_g0, hA_t0, hA_69, hA_70, hA_71, hA_72, hA_p0, hA_pn, hA_pm, hA_p71, hA_p72, hA_now, hA_img, hA_mnd, va_up_self, va_up_ne, bx_uu, g2_9, g2_10, g10_3, g10_4, g10_5, g10_6, g10_7, g10_8, g10_9, i_in_0, i_cl_0, i_in_1, i_cl_1, i_in_2, i_cl_2, i_in_3, i_cl_3, i_in_4, i_cl_4, i_in_5, i_cl_5, i_in_6, i_cl_6, i_in_7, i_cl_7, i_in_8, i_cl_8, i_in_9, i_cl_9, i_in_10, i_cl_10, i_in_11, i_cl_11, i_in_12, i_cl_12, i_in_13, i_cl_13, i_in_14, i_cl_14, i_in_15, i_cl_15, i_in_16, i_cl_16, i_in_17, i_cl_17, i_in_18, i_cl_18, i_in_19, i_cl_19, i_in_20, i_cl_20, i_in_21, i_cl_21, i_in_22, i_cl_22, i_in_23, i_cl_23, i_in_24, i_cl_24, i_in_25, i_cl_25, i_in_26, i_cl_26, i_in_27, i_cl_27, i_in_28, i_cl_28, i_in_29, i_cl_29, i_in_30, i_cl_30, i_in_31, i_cl_31, i_in_32, i_cl_32, i_in_33, i_cl_33, q_X1_goOn_82, false_implies, true_implies, implies_true, not_true_eq_false, not_false_eq_true, true_or, or_true, and_self, and_assoc, Option.some.injEq, Sum.inl.injEq, Sum.inr.injEq, Prod.mk.injEq, Value.int.injEq, Value.ref.injEq, Value.long.injEq, true_and, and_true, exists_and_left, exists_and_right, exists_eq_left, exists_eq_left', List.getElem?_cons_zero, List.getElem?_cons_succ, List.length_cons, List.length_nil, List.set_cons_zero, List.set_cons_succ, Option.toList, List.cons_append, List.nil_append, List.append_nil, Nat.zero_add, Nat.le_refl, Nat.zero_le, beq_self_eq_true, Option.isNone_none]
        refine ih _ _ ⟨_, _, 0, _, by rw [hm1], rfl, Or.inr ⟨rfl, hmv.congr (fun j hj => ?_)⟩⟩
        by_cases ej : j = 5 - t
        · subst ej; rw [if_pos rfl]
        · rw [if_neg ej]
          by_cases ej2 : j + t < 6
          · rw [if_pos ej2]; exact s3 z0 j (by omega)
          · rw [if_neg ej2]
      · have z0 : dg (i + 1) (5 - t) = 0 := (nI_eq (b := 0) (by omega) (by decide)).mp (Classical.not_not.mp z)
        simp +decide only [e_push, e_il, e_ll, e_al, e_is, e_ls, e_as, e_asN, e_inc, e_bin, e_un, e_div, e_i2l, e_l2i, e_binL, e_lneg, e_lcmp, e_dup, e_dup2, e_pop, e_if1, e_if2, e_ifnN, e_ifnR, e_sw, e_sw0, e_sw1, e_gi, e_gr, e_pi, e_pz, e_pr, e_ald, e_lald, e_aald, e_tald, e_alen, e_tlen, e_ast, e_last, e_aast, e_newa, e_newl, e_newq, e_new, e_oi, e_cv, e_cvS, e_ci, e_cs, e_pop0, e_popS, e_iret, e_zret, e_cret, e_bret, e_aret, e_aretN, e_vret, e_gs, e_ac, e_mm, e_ma, e_ldcs, e_gcs, e_gfm, e_gsV, e_gsC, e_bln, e_bld, mh_get, mh_set, mh_one, mh_two, Value.category, mh_po, mh_mc, mh_ms, mh_d, hA_0, hA_n0, hA_n1, hA_n6, hA_n7, hA_i0, hA_m0, hA_m1, hA_m6, hA_g0, hA_t0, hA_69, hA_70, hA_71, hA_72, hA_p0, hA_pn, hA_pm, hA_p71, hA_p72, hA_now, hA_img, hA_mnd, va_up_self, va_up_ne, bx_uu, g2_9, g2_10, g10_3, g10_4, g10_5, g10_6, g10_7, g10_8, g10_9, i_in_0, i_cl_0, i_in_1, i_cl_1, i_in_2, i_cl_2, i_in_3, i_cl_3, i_in_4, i_cl_4, i_in_5, i_cl_5, i_in_6, i_cl_6, i_in_7, i_cl_7, i_in_8, i_cl_8, i_in_9, i_cl_9, i_in_10, i_cl_10, i_in_11, i_cl_11, i_in_12, i_cl_12, i_in_13, i_cl_13, i_in_14, i_cl_14, i_in_15, i_cl_15, i_in_16, i_cl_16, i_in_17, i_cl_17, i_in_18, i_cl_18, i_in_19, i_cl_19, i_in_20, i_cl_20, i_in_21, i_cl_21, i_in_22, i_cl_22, i_in_23, i_cl_23, i_in_24, i_cl_24, i_in_25, i_cl_25, i_in_26, i_cl_26, i_in_27, i_cl_27, i_in_28, i_cl_28, i_in_29, i_cl_29, i_in_30, i_cl_30, i_in_31, i_cl_31, i_in_32, i_cl_32, i_in_33, i_cl_33, q_X1_goOn_82, false_implies, true_implies, implies_true, not_true_eq_false, not_false_eq_true, true_or, or_true, and_self, and_assoc, Option.some.injEq, Sum.inl.injEq, Sum.inr.injEq, Prod.mk.injEq, Value.int.injEq, Value.ref.injEq, Value.long.injEq, true_and, and_true, exists_and_left, exists_and_right, exists_eq_left, exists_eq_left', List.getElem?_cons_zero, List.getElem?_cons_succ, List.length_cons, List.length_nil, List.set_cons_zero, List.set_cons_succ, Option.toList, List.cons_append, List.nil_append, List.append_nil, Nat.zero_add, Nat.le_refl, Nat.zero_le, beq_self_eq_true, Option.isNone_none]
        refine ih _ _ ⟨_, _, 1, _, by rw [hm1], rfl, Or.inl ⟨rfl, ?_, hmv.congr (fun j hj => ?_)⟩⟩
        · have := s2.mp z0; rwa [show 6 - (5 - t) = t + 1 by omega] at this
        · by_cases ej : j = 5 - t
          · subst ej; rw [if_pos rfl, if_neg (by omega)]
          · rw [if_neg ej]
            by_cases ej2 : j + t < 6
            · rw [if_pos ej2, if_pos (by omega)]
            · rw [if_neg ej2, if_neg (by omega)]
    · rw [hpt]
      have hn0 : ¬ nI (5 - t) < 0 := nI_pos (by omega)
      simp +decide only [e_push, e_il, e_ll, e_al, e_is, e_ls, e_as, e_asN, e_inc, e_bin, e_un, e_div, e_i2l, e_l2i, e_binL, e_lneg, e_lcmp, e_dup, e_dup2, e_pop, e_if1, e_if2, e_ifnN, e_ifnR, e_sw, e_sw0, e_sw1, e_gi, e_gr, e_pi, e_pz, e_pr, e_ald, e_lald, e_aald, e_tald, e_alen, e_tlen, e_ast, e_last, e_aast, e_newa, e_newl, e_newq, e_new, e_oi, e_cv, e_cvS, e_ci, e_cs, e_pop0, e_popS, e_iret, e_zret, e_cret, e_bret, e_aret, e_aretN, e_vret, e_gs, e_ac, e_mm, e_ma, e_ldcs, e_gcs, e_gfm, e_gsV, e_gsC, e_bln, e_bld, mh_get, mh_set, mh_one, mh_two, Value.category, mh_po, mh_mc, mh_ms, mh_d, hA_0, hA_n0, hA_n1, hA_n6, hA_n7, hA_i0, hA_m0, hA_m1, hA_m6, hA_g0, hA_t0, hA_69, hA_70, hA_71, hA_72, hA_p0, hA_pn, hA_pm, hA_p71, hA_p72, hA_now, hA_img, hA_mnd, va_up_self, va_up_ne, bx_uu, g2_9, g2_10, g10_3, g10_4, g10_5, g10_6, g10_7, g10_8, g10_9, i_in_0, i_cl_0, i_in_1, i_cl_1, i_in_2, i_cl_2, i_in_3, i_cl_3, i_in_4, i_cl_4, i_in_5, i_cl_5, i_in_6, i_cl_6, i_in_7, i_cl_7, i_in_8, i_cl_8, i_in_9, i_cl_9, i_in_10, i_cl_10, i_in_11, i_cl_11, i_in_12, i_cl_12, i_in_13, i_cl_13, i_in_14, i_cl_14, i_in_15, i_cl_15, i_in_16, i_cl_16, i_in_17, i_cl_17, i_in_18, i_cl_18, i_in_19, i_cl_19, i_in_20, i_cl_20, i_in_21, i_cl_21, i_in_22, i_cl_22, i_in_23, i_cl_23, i_in_24, i_cl_24, i_in_25, i_cl_25, i_in_26, i_cl_26, i_in_27, i_cl_27, i_in_28, i_cl_28, i_in_29, i_cl_29, i_in_30, i_cl_30, i_in_31, i_cl_31, i_in_32, i_cl_32, i_in_33, i_cl_33, q_X1_goOn_4, hn0, q_X1_goOn_89, false_implies, true_implies, implies_true, not_true_eq_false, not_false_eq_true, true_or, or_true, and_self, and_assoc, Option.some.injEq, Sum.inl.injEq, Sum.inr.injEq, Prod.mk.injEq, Value.int.injEq, Value.ref.injEq, Value.long.injEq, true_and, and_true, exists_and_left, exists_and_right, exists_eq_left, exists_eq_left', List.getElem?_cons_zero, List.getElem?_cons_succ, List.length_cons, List.length_nil, List.set_cons_zero, List.set_cons_succ, Option.toList, List.cons_append, List.nil_append, List.append_nil, Nat.zero_add, Nat.le_refl, Nat.zero_le, beq_self_eq_true, Option.isNone_none]
      exact fin f g hq
  · rintro _ _ ⟨f, g, c, o, rfl, rfl, hcs⟩
    refine b_X1_goOn_4 _ _ _ _ _ ?_
    have hlt : nI 5 - nI 6 < 0 := by decide
    simp +decide only [e_push, e_il, e_ll, e_al, e_is, e_ls, e_as, e_asN, e_inc, e_bin, e_un, e_div, e_i2l, e_l2i, e_binL, e_lneg, e_lcmp, e_dup, e_dup2, e_pop, e_if1, e_if2, e_ifnN, e_ifnR, e_sw, e_sw0, e_sw1, e_gi, e_gr, e_pi, e_pz, e_pr, e_ald, e_lald, e_aald, e_tald, e_alen, e_tlen, e_ast, e_last, e_aast, e_newa, e_newl, e_newq, e_new, e_oi, e_cv, e_cvS, e_ci, e_cs, e_pop0, e_popS, e_iret, e_zret, e_cret, e_bret, e_aret, e_aretN, e_vret, e_gs, e_ac, e_mm, e_ma, e_ldcs, e_gcs, e_gfm, e_gsV, e_gsC, e_bln, e_bld, mh_get, mh_set, mh_one, mh_two, Value.category, mh_po, mh_mc, mh_ms, mh_d, hA_0, hA_n0, hA_n1, hA_n6, hA_n7, hA_i0, hA_m0, hA_m1, hA_m6, hA_g0, hA_t0, hA_69, hA_70, hA_71, hA_72, hA_p0, hA_pn, hA_pm, hA_p71, hA_p72, hA_now, hA_img, hA_mnd, va_up_self, va_up_ne, bx_uu, g2_9, g2_10, g10_3, g10_4, g10_5, g10_6, g10_7, g10_8, g10_9, i_in_0, i_cl_0, i_in_1, i_cl_1, i_in_2, i_cl_2, i_in_3, i_cl_3, i_in_4, i_cl_4, i_in_5, i_cl_5, i_in_6, i_cl_6, i_in_7, i_cl_7, i_in_8, i_cl_8, i_in_9, i_cl_9, i_in_10, i_cl_10, i_in_11, i_cl_11, i_in_12, i_cl_12, i_in_13, i_cl_13, i_in_14, i_cl_14, i_in_15, i_cl_15, i_in_16, i_cl_16, i_in_17, i_cl_17, i_in_18, i_cl_18, i_in_19, i_cl_19, i_in_20, i_cl_20, i_in_21, i_cl_21, i_in_22, i_cl_22, i_in_23, i_cl_23, i_in_24, i_cl_24, i_in_25, i_cl_25, i_in_26, i_cl_26, i_in_27, i_cl_27, i_in_28, i_cl_28, i_in_29, i_cl_29, i_in_30, i_cl_30, i_in_31, i_cl_31, i_in_32, i_cl_32, i_in_33, i_cl_33, q_X1_goOn_4, hlt, q_X1_goOn_89, false_implies, true_implies, implies_true, not_true_eq_false, not_false_eq_true, true_or, or_true, and_self, and_assoc, Option.some.injEq, Sum.inl.injEq, Sum.inr.injEq, Prod.mk.injEq, Value.int.injEq, Value.ref.injEq, Value.long.injEq, true_and, and_true, exists_and_left, exists_and_right, exists_eq_left, exists_eq_left', List.getElem?_cons_zero, List.getElem?_cons_succ, List.length_cons, List.length_nil, List.set_cons_zero, List.set_cons_succ, Option.toList, List.cons_append, List.nil_append, List.append_nil, Nat.zero_add, Nat.le_refl, Nat.zero_le, beq_self_eq_true, Option.isNone_none]
    rcases hcs with ⟨-, -, hq⟩ | ⟨-, hq⟩
    · exact fin f g (hq.congr (fun j hj => by rw [if_neg (by omega)]))
    · exact fin f g hq
  · congr 1
    funext j
    by_cases e : j = 64
    · subst e; rw [va_up_self]
    · by_cases e2 : j = 63
      · subst e2; rw [va_up_ne _ _ (by decide), va_up_self]
      · rw [va_up_ne _ _ e, va_up_ne _ _ e2]
end PRM
