/-! PART 62: the class: whether a stone holds; texts; laws -/
/-- a Stone is the model's i-th, but for its DONE -/
def sF (g : Nat → Int32) (N : Nat → Int32) (i : Nat) : Prop := (∃ k, k < 6 ∧ g 0 = nI k ∧ N (20 + 6 * i) = nI k) ∧ (∃ k, k < 6 ∧ g 1 = nI k ∧ N (21 + 6 * i) = nI k) ∧ (∃ k, k < 4 ∧ g 2 = nI k ∧ N (22 + 6 * i) = nI k) ∧ (∃ k, k < 10 ∧ g 3 = nI k ∧ N (23 + 6 * i) = nI k) ∧ ∃ k, k ≤ 9999 ∧ g 4 = nI k ∧ N (24 + 6 * i) = nI k
theorem sF.eq {g N : Nat → Int32} {i : Nat} (h : sF g N i) : g 0 = N (20 + 6 * i) ∧ g 1 = N (21 + 6 * i) ∧ g 2 = N (22 + 6 * i) ∧ g 3 = N (23 + 6 * i) ∧ g 4 = N (24 + 6 * i) := by
  obtain ⟨⟨a, -, h1, h2⟩, ⟨b, -, h3, h4⟩, ⟨c, -, h5, h6⟩, ⟨d, -, h7, h8⟩, ⟨e, -, h9, h10⟩⟩ := h
  exact ⟨h1.trans h2.symm, h3.trans h4.symm, h5.trans h6.symm, h7.trans h8.symm, h9.trans h10.symm⟩
theorem sF.congr {g N M : Nat → Int32} {i : Nat} (h : sF g N i) (hq : ∀ j, j < 5 → M (20 + 6 * i + j) = N (20 + 6 * i + j)) : sF g M i := by
  unfold sF at h ⊢
  have e0 := hq 0 (by decide)
  have e1 := hq 1 (by decide)
  have e2 := hq 2 (by decide)
  have e3 := hq 3 (by decide)
  have e4 := hq 4 (by decide)
  rw [show 20 + 6 * i + 0 = 20 + 6 * i by omega] at e0
  rw [show 20 + 6 * i + 1 = 21 + 6 * i by omega] at e1
  rw [show 20 + 6 * i + 2 = 22 + 6 * i by omega] at e2
  rw [show 20 + 6 * i + 3 = 23 + 6 * i by omega] at e3
  rw [show 20 + 6 * i + 4 = 24 + 6 * i by omega] at e4
  rw [e0, e1, e2, e3, e4]
  exact h
theorem r_manyN (N : Nat → Int32) (sq rk but : Int32) : ∀ k, r_many N sq rk but k = nI (cntN (fun p => ¬ nI p = but ∧ N (8 + 2 * p) = sq ∧ rk ≤ N (9 + 2 * p)) k)
  | 0 => rfl
  | k + 1 => by
    rw [r_many, r_manyN N sq rk but k]
    by_cases e : ¬ nI k = but ∧ N (8 + 2 * k) = sq ∧ rk ≤ N (9 + 2 * k)
    · rw [zB_t e, cntN_t e, nI_1]
    · rw [zB_f e, cntN_f e, Int32.add_zero]
theorem r_many0 (N : Nat → Int32) (sq rk but : Int32) : (0 < r_many N sq rk but 6 ↔ ∃ p, p < 6 ∧ ¬ nI p = but ∧ N (8 + 2 * p) = sq ∧ rk ≤ N (9 + 2 * p)) ∧ (r_many N sq rk but 6 = 0 ↔ ¬ ∃ p, p < 6 ∧ ¬ nI p = but ∧ N (8 + 2 * p) = sq ∧ rk ≤ N (9 + 2 * p)) := by
  have hle := cntN_le (fun p => ¬ nI p = but ∧ N (8 + 2 * p) = sq ∧ rk ≤ N (9 + 2 * p)) 6
  have hp := cntN_pos (P := fun p => ¬ nI p = but ∧ N (8 + 2 * p) = sq ∧ rk ≤ N (9 + 2 * p)) 6
  rw [r_manyN]
  constructor
  · rw [← hp]
    exact nI_ltI (a := 0) (by decide) (by omega)
  · rw [← hp]
    have := nI_eq (a := cntN (fun p => ¬ nI p = but ∧ N (8 + 2 * p) = sq ∧ rk ≤ N (9 + 2 * p)) 6) (b := 0) (by omega) (by decide)
    rw [show (nI (cntN (fun p => ¬ nI p = but ∧ N (8 + 2 * p) = sq ∧ rk ≤ N (9 + 2 * p)) 6) = 0) = (nI (cntN (fun p => ¬ nI p = but ∧ N (8 + 2 * p) = sq ∧ rk ≤ N (9 + 2 * p)) 6) = nI 0) from rfl, this]
    omega
theorem hold_eq {V : Nat → Nat → Int32} {N g : Nat → Int32} {i q r : Nat} (hR : pR V N) (hs : sF g N i) (hq : q < 4) (hr : r < 10) (h2 : g 2 = nI q) (h3 : g 3 = nI r) : k_hold g (V 4 q) (V 5 r) ↔ r_hd N i := by
  obtain ⟨-, -, hrk, hcr, hab⟩ := hR
  obtain ⟨e0, e1, e2, e3, e4⟩ := hs.eq
  obtain ⟨-, ⟨w, hw, hw1, hw2⟩, -, -, -⟩ := hs
  have rk0 : ∀ p, p < 6 → (0 : Int32) ≤ N (9 + 2 * p) := fun p hp => by
    obtain ⟨k, hk, hk2⟩ := hrk p hp
    rw [hk2]
    exact Int32.not_lt.mp (nI_pos (by omega))
  have ne1 : ∀ p, p < 6 → ¬ nI p = -1 := fun p hp z => absurd (show nI p < 0 by rw [z]; decide) (nI_pos (by omega))
  rw [r_hd, hw2, nI_clamp (by omega), k_hold, r_hold, hcr q hq, hab r hr, hw1, bS_one hw, ← e0, ← e2, ← e3, h2, h3]
  have t1 : ∀ P : Nat → Prop, ¬ bS P &&& bS (fun j => j = w) = 0 ↔ P w := fun P => by
    rw [bS_and, bS_0]
    constructor
    · intro z
      exact Classical.byContradiction fun hn => z (fun j _ hj => by obtain ⟨z1, rfl⟩ := hj; exact hn z1)
    · intro z hn
      exact hn w hw ⟨z, rfl⟩
  by_cases k1 : g 0 = 1
  · rw [if_pos k1, if_pos k1, t1]
  rw [if_neg k1, if_neg k1]
  by_cases k2 : g 0 = 2
  · rw [if_pos k2, if_pos k2, t1]
  rw [if_neg k2, if_neg k2]
  by_cases k3 : g 0 = 3
  · rw [if_pos k3, if_pos k3, t1, (r_many0 N (nI q) 0 (nI w)).1]
    refine and_congr_right fun hPw => ?_
    constructor
    · intro z
      refine Classical.byContradiction fun hn => z (bS_ext fun j hj => ⟨fun hP => ?_, fun hj2 => ?_⟩)
      · exact Classical.byContradiction fun hjw => hn ⟨j, hj, fun ze => hjw ((nI_eq (by omega) (by omega)).mp ze), hP, rk0 j hj⟩
      · rw [hj2]; exact hPw
    · rintro ⟨p, hp, h1, h2, -⟩ z
      exact h1 (by rw [(bS_inj z p hp).mp h2])
  rw [if_neg k3, if_neg k3]
  by_cases k4 : g 0 = 4
  · rw [if_pos k4, if_pos k4, bS_and, bS_0, (r_many0 N (nI q) (nI r) (-1)).1]
    constructor
    · intro z
      refine Classical.byContradiction fun hn => z (fun j hj hP => hn ⟨j, hj, ne1 j hj, hP.1, hP.2⟩)
    · rintro ⟨p, hp, h1, h2, h3⟩ z
      exact z p hp ⟨h2, h3⟩
  rw [if_neg k4, if_neg k4]
  by_cases k5 : g 0 = 5
  · rw [if_pos k5, if_pos k5, bS_0, (r_many0 N (nI q) 0 (-1)).2]
    constructor
    · rintro z ⟨p, hp, h1, h2, h3⟩
      exact z p hp h2
    · intro z j hj hP
      exact z ⟨j, hj, ne1 j hj, hP, rk0 j hj⟩
  rw [if_neg k5, if_neg k5, bS_and, t1]
/-! TEXTS -/
/-- a step of a Text, by the model's code -/
def enc (c : Int32) : Int32 := if c < 0 then (if c = -10 then -33 else if c = -1 then -124 else if c = -2 then -38 else if c = -3 then -60 else if c = -4 then -61 else if c = -5 then -62 else if c = -6 then -43 else if c = -7 then -45 else if c = -8 then -42 else -47) else if c < 10000 then c else -1 - (c - 10000)
def r_jn (s r l : Int32) : Int32 := if s = 38 then (if l = 0 then 0 else if r = 0 then 0 else 1) else if s = 42 then l * r else if s = 43 then l + r else if s = 45 then l - r else if s = 60 then (if r ≤ l then 0 else 1) else if s = 61 then (if l = r then 1 else 0) else if s = 62 then (if l ≤ r then 0 else 1) else if s = 124 then (if l = 0 then (if r = 0 then 0 else 1) else 1) else (if r = 0 then 0 else l / r)
/-- a Text at a: what it is, how high its stack stands, the stack -/
def hX (h : mh_H) (a : Nat) (k0 lv ht : Int32) (n : Nat) (g : Nat → Int32) : mh_H := mh_put (mh_put h a (.inr (.inl (8, [.int k0, .int lv, .ref (a + 1), .ref (a + 2), .int ht])))) (a + 2) (.inl (0, n, .inl g))
section CLC
variable {E : mh_E} {h : mh_H} {a n : Nat} {k0 lv ht v w x y z : Int32} {g cs ec : Nat → Int32}
theorem hX_0 : (hX h a k0 lv ht n g).2 a = some (.inr (.inl (8, [.int k0, .int lv, .ref (a + 1), .ref (a + 2), .int ht]))) := by rw [hX, mh_put_ne (by omega), mh_put_self]
theorem hX_1 : (hX h a k0 lv ht n g).2 (a + 1) = h.2 (a + 1) := by rw [hX, mh_put_ne (by omega), mh_put_ne (by omega)]
theorem hX_2 : (hX h a k0 lv ht n g).2 (a + 2) = some (.inl (0, n, .inl g)) := by rw [hX, mh_put_self]
theorem hX_p {u : Int32} : mh_put (hX h a k0 lv ht n g) a (.inr (.inl (8, [.int k0, .int lv, .ref (a + 1), .ref (a + 2), .int u]))) = hX h a k0 lv u n g := by
  refine Prod.ext rfl (funext fun q => ?_)
  by_cases e : q = a
  · subst e; simp [hX, mh_put]
  · by_cases e2 : q = a + 2
    · subst e2; simp [hX, mh_put]
    · simp [hX, mh_put, e, e2]
theorem hX_g {f : Nat → Int32} : mh_put (hX h a k0 lv ht n g) (a + 2) (.inl (0, n, .inl f)) = hX h a k0 lv ht n f := by rw [hX, mh_put_put, hX]
theorem c_X8_join : mh_M E 0 0 0 yX8_join [.int x, .int y, .int z] h (fun r h' => r = some (.int (r_jn x y z)) ∧ h' = h) := by
  refine m_X8_join [some (.int x), some (.int y), some (.int z)] rfl (Nat.le_of_ble_eq_true rfl) ?_
  simp +decide only [e_push, e_il, e_ll, e_al, e_is, e_ls, e_as, e_asN, e_inc, e_bin, e_un, e_div, e_i2l, e_l2i, e_binL, e_lneg, e_lcmp, e_dup, e_dup2, e_pop, e_if1, e_if2, e_ifnN, e_ifnR, e_sw, e_sw0, e_sw1, e_gi, e_gr, e_pi, e_pz, e_pr, e_ald, e_lald, e_aald, e_tald, e_alen, e_tlen, e_ast, e_last, e_aast, e_newa, e_newl, e_newq, e_new, e_oi, e_cv, e_cvS, e_ci, e_cs, e_pop0, e_popS, e_iret, e_zret, e_cret, e_bret, e_aret, e_aretN, e_vret, e_gs, e_ac, e_mm, e_ma, e_ldcs, e_gcs, e_gfm, e_gsV, e_gsC, e_bln, e_bld, mh_get, mh_set, mh_one, mh_two, Value.category, mh_po, mh_mc, mh_ms, mh_d, q_X8_join_160, q_X8_join_136, q_X8_join_125, q_X8_join_114, q_X8_join_103, q_X8_join_102, q_X8_join_89, q_X8_join_84, q_X8_join_0, false_implies, true_implies, implies_true, not_true_eq_false, not_false_eq_true, true_or, or_true, and_self, and_assoc, Option.some.injEq, Sum.inl.injEq, Sum.inr.injEq, Prod.mk.injEq, Value.int.injEq, Value.ref.injEq, Value.long.injEq, true_and, and_true, exists_and_left, exists_and_right, exists_eq_left, exists_eq_left', List.getElem?_cons_zero, List.getElem?_cons_succ, List.length_cons, List.length_nil, List.set_cons_zero, List.set_cons_succ, Option.toList, List.cons_append, List.nil_append, List.append_nil, Nat.zero_add, Nat.le_refl, Nat.zero_le, beq_self_eq_true, Option.isNone_none]
  unfold r_jn
  (repeat' (first | apply And.intro | intro _)) <;> simp_all
theorem c_X8_push {t : Nat} (hht : ht = nI t) (ht2 : t < n) (hn : n ≤ 96) : mh_M E 0 0 0 yX8_push [.ref a, .int v] (hX h a k0 lv ht n g) (fun r h' => r = none ∧ h' = hX h a k0 lv (nI (t + 1)) n (upd g t v)) := by
  subst hht
  have hge : ¬ nI n ≤ nI t := nI_ge ht2 (by omega)
  have hv : vp_in (nI t) n := vp_in_nI ht2 (by omega)
  have hcl : (nI t).toNatClampNeg = t := nI_clamp (by omega)
  have hN : Int32.ofNat n = nI n := rfl
  refine m_X8_push [some (.ref a), some (.int v)] rfl (Nat.le_of_ble_eq_true rfl) ?_
  simp +decide only [e_push, e_il, e_ll, e_al, e_is, e_ls, e_as, e_asN, e_inc, e_bin, e_un, e_div, e_i2l, e_l2i, e_binL, e_lneg, e_lcmp, e_dup, e_dup2, e_pop, e_if1, e_if2, e_ifnN, e_ifnR, e_sw, e_sw0, e_sw1, e_gi, e_gr, e_pi, e_pz, e_pr, e_ald, e_lald, e_aald, e_tald, e_alen, e_tlen, e_ast, e_last, e_aast, e_newa, e_newl, e_newq, e_new, e_oi, e_cv, e_cvS, e_ci, e_cs, e_pop0, e_popS, e_iret, e_zret, e_cret, e_bret, e_aret, e_aretN, e_vret, e_gs, e_ac, e_mm, e_ma, e_ldcs, e_gcs, e_gfm, e_gsV, e_gsC, e_bln, e_bld, mh_get, mh_set, mh_one, mh_two, Value.category, mh_po, mh_mc, mh_ms, mh_d, q_X8_push_39, q_X8_push_0, hX_0, hX_1, hX_2, hX_p, hX_g, hN, hge, hv, hcl, nI_pos (show t < 2 ^ 31 by omega), nI_1, false_implies, true_implies, implies_true, not_true_eq_false, not_false_eq_true, true_or, or_true, and_self, and_assoc, Option.some.injEq, Sum.inl.injEq, Sum.inr.injEq, Prod.mk.injEq, Value.int.injEq, Value.ref.injEq, Value.long.injEq, true_and, and_true, exists_and_left, exists_and_right, exists_eq_left, exists_eq_left', List.getElem?_cons_zero, List.getElem?_cons_succ, List.length_cons, List.length_nil, List.set_cons_zero, List.set_cons_succ, Option.toList, List.cons_append, List.nil_append, List.append_nil, Nat.zero_add, Nat.le_refl, Nat.zero_le, beq_self_eq_true, Option.isNone_none]
theorem c_X8_pop {t : Nat} (hht : ht = nI (t + 1)) (ht2 : t < n) (hn : n ≤ 96) : mh_M E 0 0 0 yX8_pop [.ref a] (hX h a k0 lv ht n g) (fun r h' => r = some (.int (g t)) ∧ h' = hX h a k0 lv (nI t) n g) := by
  subst hht
  have hle : nI (t + 1) ≤ nI n := nI_le (by omega) (by omega)
  have hv : vp_in (nI t) n := vp_in_nI ht2 (by omega)
  have hcl : (nI t).toNatClampNeg = t := nI_clamp (by omega)
  have hN : Int32.ofNat n = nI n := rfl
  refine m_X8_pop [some (.ref a)] rfl (Nat.le_of_ble_eq_true rfl) ?_
  simp +decide only [e_push, e_il, e_ll, e_al, e_is, e_ls, e_as, e_asN, e_inc, e_bin, e_un, e_div, e_i2l, e_l2i, e_binL, e_lneg, e_lcmp, e_dup, e_dup2, e_pop, e_if1, e_if2, e_ifnN, e_ifnR, e_sw, e_sw0, e_sw1, e_gi, e_gr, e_pi, e_pz, e_pr, e_ald, e_lald, e_aald, e_tald, e_alen, e_tlen, e_ast, e_last, e_aast, e_newa, e_newl, e_newq, e_new, e_oi, e_cv, e_cvS, e_ci, e_cs, e_pop0, e_popS, e_iret, e_zret, e_cret, e_bret, e_aret, e_aretN, e_vret, e_gs, e_ac, e_mm, e_ma, e_ldcs, e_gcs, e_gfm, e_gsV, e_gsC, e_bln, e_bld, mh_get, mh_set, mh_one, mh_two, Value.category, mh_po, mh_mc, mh_ms, mh_d, q_X8_pop_19, q_X8_pop_0, hX_0, hX_1, hX_2, hX_p, hX_g, hN, hle, hv, hcl, nI_nle (show 0 < t + 1 by omega) (show t + 1 < 2 ^ 31 by omega), nI_pred, false_implies, true_implies, implies_true, not_true_eq_false, not_false_eq_true, true_or, or_true, and_self, and_assoc, Option.some.injEq, Sum.inl.injEq, Sum.inr.injEq, Prod.mk.injEq, Value.int.injEq, Value.ref.injEq, Value.long.injEq, true_and, and_true, exists_and_left, exists_and_right, exists_eq_left, exists_eq_left', List.getElem?_cons_zero, List.getElem?_cons_succ, List.length_cons, List.length_nil, List.set_cons_zero, List.set_cons_succ, Option.toList, List.cons_append, List.nil_append, List.append_nil, Nat.zero_add, Nat.le_refl, Nat.zero_le, beq_self_eq_true, Option.isNone_none]
theorem dl_le (cs : Nat → Int32) : ∀ k, dl cs k ≤ k
  | 0 => Nat.le_refl 0
  | k + 1 => by
    have := dl_le cs k
    rw [dl]
    split
    · split <;> omega
    · omega
theorem enc_jn {c l r : Int32} (h0 : c < 0) (h10 : ¬ c = -10) : r_jn (-enc c) r l = r_two c l r := by
  unfold enc
  rw [if_pos h0, if_neg h10]
  by_cases c1 : c = -1
  · subst c1; simp +decide [r_jn, r_two]; split <;> simp_all
  by_cases c2 : c = -2
  · subst c2; simp +decide [r_jn, r_two]; split <;> simp_all
  by_cases c3 : c = -3
  · subst c3; simp +decide [r_jn, r_two]; split <;> simp_all
  by_cases c4 : c = -4
  · subst c4; simp +decide [r_jn, r_two]
  by_cases c5 : c = -5
  · subst c5; simp +decide [r_jn, r_two]; split <;> simp_all
  by_cases c6 : c = -6
  · subst c6; simp +decide [r_jn, r_two]
  by_cases c7 : c = -7
  · subst c7; simp +decide [r_jn, r_two]
  by_cases c8 : c = -8
  · subst c8; simp +decide [r_jn, r_two]
  simp only [c1, c2, c3, c4, c5, c6, c7, c8, if_false]
  simp +decide [r_jn, r_two, c1, c2, c3, c4, c5, c6, c7, c8]
end CLC
