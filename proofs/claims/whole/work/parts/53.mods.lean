/-! PART 53: the model: tokens in their order; parts; an E -/
/-- the k-th token: where it begins, its kind, where it ends -/
noncomputable def lxS (t : Nat → Int32) (n : Nat) : Nat → Nat × Nat × Nat
  | 0 => (adv (tpS t n) 96 0, tpK t n False (adv (tpS t n) 96 0), tpE t n (adv (tpS t n) 96 0))
  | k + 1 => (adv (tpS t n) 96 (lxS t n k).2.2, tpK t n (((lxS t n k).2.1 = 1 ∨ (lxS t n k).2.1 = 2) ∧ adv (tpS t n) 96 (lxS t n k).2.2 = (lxS t n k).2.2) (adv (tpS t n) 96 (lxS t n k).2.2), tpE t n (adv (tpS t n) 96 (lxS t n k).2.2))
noncomputable def tS (t : Nat → Int32) (n k : Nat) : Nat := (lxS t n k).1
noncomputable def tK (t : Nat → Int32) (n k : Nat) : Nat := (lxS t n k).2.1
noncomputable def tE (t : Nat → Int32) (n k : Nat) : Nat := (lxS t n k).2.2
theorem tE_eq (t : Nat → Int32) (n : Nat) : ∀ k, tE t n k = tpE t n (tS t n k)
  | 0 => rfl
  | _ + 1 => rfl
theorem tK_ex (t : Nat → Int32) (n : Nat) : ∀ k, ∃ c : Prop, tK t n k = tpK t n c (tS t n k)
  | 0 => ⟨False, rfl⟩
  | k + 1 => ⟨((tK t n k = 1 ∨ tK t n k = 2) ∧ tS t n (k + 1) = tE t n k), rfl⟩
theorem adv_gt {P : Nat → Prop} {f i : Nat} (h : P i) : i < adv P (f + 1) i := by
  rw [adv, cI_t h]
  exact adv_ge P f (i + 1)
theorem tp_cases (t : Nat → Int32) {n s : Nat} (c : Prop) (hs : s ≤ n) (hn : n ≤ 96) : (s = n ∧ tpK t n c s = 0 ∧ tpE t n s = n) ∨ (s < n ∧ tpL t n s ∧ (tpK t n c s = 1 ∧ ¬ c ∨ tpK t n c s = 4) ∧ s < tpE t n s ∧ tpE t n s ≤ n) ∨ (s < n ∧ ¬ tpL t n s ∧ tpF t n s ∧ (tpK t n c s = 2 ∧ ¬ c ∧ tpE t n s - s ≤ 4 ∨ tpK t n c s = 4) ∧ s < tpE t n s ∧ tpE t n s ≤ n) ∨ (s < n ∧ ¬ tpL t n s ∧ ¬ tpF t n s ∧ tpK t n c s = 3 ∧ tpE t n s = s + 1) := by
  by_cases e : s = n
  · exact Or.inl ⟨e, by rw [tpK, cI_t e], by rw [tpE, cI_t e]⟩
  have h1 : s < n := by omega
  by_cases e2 : tpL t n s
  · refine Or.inr (Or.inl ⟨h1, e2, ?_, ?_, ?_⟩)
    · by_cases ec : c
      · exact Or.inr (by rw [tpK, cI_f e, cI_t e2, cI_t ec])
      · exact Or.inl ⟨by rw [tpK, cI_f e, cI_t e2, cI_f ec], ec⟩
    · rw [tpE, cI_f e, cI_t e2]; exact adv_gt e2
    · rw [tpE, cI_f e, cI_t e2]; exact adv_le (n := n) (fun j hj => hj.1) hs
  by_cases e3 : tpF t n s
  · refine Or.inr (Or.inr (Or.inl ⟨h1, e2, e3, ?_, ?_, ?_⟩))
    · by_cases ec : c ∨ 4 < adv (tpF t n) 96 s - s
      · exact Or.inr (by rw [tpK, cI_f e, cI_f e2, cI_t e3, cI_t ec])
      · refine Or.inl ⟨by rw [tpK, cI_f e, cI_f e2, cI_t e3, cI_f ec], fun z => ec (Or.inl z), ?_⟩
        rw [tpE, cI_f e, cI_f e2, cI_t e3]
        have : ¬ 4 < adv (tpF t n) 96 s - s := fun z => ec (Or.inr z)
        omega
    · rw [tpE, cI_f e, cI_f e2, cI_t e3]; exact adv_gt e3
    · rw [tpE, cI_f e, cI_f e2, cI_t e3]; exact adv_le (n := n) (fun j hj => hj.1) hs
  · exact Or.inr (Or.inr (Or.inr ⟨h1, e2, e3, by rw [tpK, cI_f e, cI_f e2, cI_f e3], by rw [tpE, cI_f e, cI_f e2, cI_f e3]⟩))
theorem tS_le (t : Nat → Int32) {n : Nat} (hn : n ≤ 96) : ∀ k, tS t n k ≤ n
  | 0 => adv_le (n := n) (fun j hj => hj.1) (Nat.zero_le n)
  | k + 1 => by
    have ih := tS_le t hn k
    refine adv_le (n := n) (fun j hj => hj.1) ?_
    have h2 := tE_eq t n k
    rw [show (lxS t n k).2.2 = tE t n k from rfl, h2]
    rcases tp_cases t False ih hn with h | h | h | h
    · omega
    · exact h.2.2.2.2
    · exact h.2.2.2.2.2
    · omega
theorem tE_le (t : Nat → Int32) {n : Nat} (hn : n ≤ 96) (k : Nat) : tE t n k ≤ n := by
  rw [tE_eq]
  rcases tp_cases t False (tS_le t hn k) hn with h | h | h | h
  · omega
  · exact h.2.2.2.2
  · exact h.2.2.2.2.2
  · omega
theorem tES (t : Nat → Int32) (n k : Nat) : tE t n k ≤ tS t n (k + 1) := adv_ge _ _ _
theorem tK0 (t : Nat → Int32) {n : Nat} (hn : n ≤ 96) (k : Nat) (h0 : ¬ tK t n k = 0) : tS t n k < n ∧ tS t n k < tE t n k := by
  obtain ⟨c, hc⟩ := tK_ex t n k
  rw [tE_eq]
  rcases tp_cases t c (tS_le t hn k) hn with h | h | h | h
  · exact absurd (hc.trans h.2.1) h0
  · exact ⟨h.1, h.2.2.2.1⟩
  · exact ⟨h.1, h.2.2.2.2.1⟩
  · exact ⟨h.1, by omega⟩
/-- the model has read the k-th token -/
def tkM (t : Nat → Int32) (n : Nat) (F : Nat → Int32) (k : Nat) : Prop := F 7 = nI n ∧ F 9 = nI (tS t n k) ∧ F 8 = nI (tE t n k) ∧ F 10 = nI (tK t n k) ∧ (tK t n k = 1 → F 11 = t (tS t n k)) ∧ (tK t n k = 2 → F 11 = tpN t (tS t n k) (tE t n k - tS t n k)) ∧ (tK t n k = 3 → F 11 = t (tS t n k)) ∧ (tK t n k = 1 ∨ tK t n k = 2 → F 12 = nI (tE t n k)) ∧ (tK t n k = 3 → ∀ j, tE t n k ≤ j → j ≤ 96 → ¬ F 12 = nI j)
/-- what every reading leaves -/
def gP (F F' : Nat → Int32) : Prop := F' 3 = F 3 ∧ F' 13 = F 13 ∧ F' 33 = F 33
def aP (A A' : Nat → Nat → Int32) : Prop := ∀ r, r ≠ 9 → r ≠ 10 → r ≠ 11 → A' r = A r
theorem gP.trans {F G H : Nat → Int32} (h1 : gP F G) (h2 : gP G H) : gP F H := ⟨h2.1.trans h1.1, h2.2.1.trans h1.2.1, h2.2.2.trans h1.2.2⟩
theorem aP.trans {A B C : Nat → Nat → Int32} (h1 : aP A B) (h2 : aP B C) : aP A C := fun r a b c => (h2 r a b c).trans (h1 r a b c)
theorem aP9 {A : Nat → Nat → Int32} {a : Nat → Int32} : aP A (va_up A 9 a) := fun r h _ _ => va_up_ne _ _ h
theorem aP10 {A : Nat → Nat → Int32} {a : Nat → Int32} : aP A (va_up A 10 a) := fun r _ h _ => va_up_ne _ _ h
theorem aP11 {A : Nat → Nat → Int32} {a : Nat → Int32} : aP A (va_up A 11 a) := fun r _ _ h => va_up_ne _ _ h
theorem tpVW {t : Nat → Int32} {n s : Nat} {d e : Int32} {c : Prop} (hs : s ≤ n) (hn : n ≤ 96) : (tpK t n c s = 1 → tpV t n s d = t s ∧ tpW t n s e = nI (tpE t n s)) ∧ (tpK t n c s = 2 → tpV t n s d = tpN t s (tpE t n s - s) ∧ tpW t n s e = nI (tpE t n s)) ∧ (tpK t n c s = 3 → tpV t n s d = t s ∧ tpW t n s e = e ∧ tpE t n s = s + 1) := by
  rcases tp_cases t c hs hn with h | h | h | h
  · rw [h.2.1]; exact ⟨fun z => absurd z (by decide), fun z => absurd z (by decide), fun z => absurd z (by decide)⟩
  · have e : ¬ s = n := by omega
    have hv : tpV t n s d = t s ∧ ∀ e, tpW t n s e = nI (tpE t n s) := ⟨by rw [tpV, cI_f e, cI_t h.2.1], fun e' => by rw [tpW, cI_f e, cI_t h.2.1, tpE, cI_f e, cI_t h.2.1]⟩
    refine ⟨fun _ => ⟨hv.1, hv.2 _⟩, fun z => ?_, fun z => ?_⟩ <;> (rcases h.2.2.1 with q | q <;> omega)
  · have e : ¬ s = n := by omega
    have hv : tpV t n s d = tpN t s (tpE t n s - s) ∧ ∀ e, tpW t n s e = nI (tpE t n s) := ⟨by rw [tpV, cI_f e, cI_f h.2.1, cI_t h.2.2.1, tpE, cI_f e, cI_f h.2.1, cI_t h.2.2.1], fun e' => by rw [tpW, cI_f e, cI_f h.2.1, cI_t h.2.2.1, tpE, cI_f e, cI_f h.2.1, cI_t h.2.2.1]⟩
    refine ⟨fun z => ?_, fun _ => ⟨hv.1, hv.2 _⟩, fun z => ?_⟩ <;> (rcases h.2.2.2.1 with q | q <;> omega)
  · have e : ¬ s = n := by omega
    refine ⟨fun z => ?_, fun z => ?_, fun _ => ⟨by rw [tpV, cI_f e, cI_f h.2.1, cI_f h.2.2.1], by rw [tpW, cI_f e, cI_f h.2.1, cI_f h.2.2.1], h.2.2.2.2⟩⟩ <;> omega
section MOS
variable {E : mh_E} {h : mh_H} {R : Nat} {A : Nat → Nat → Int32} {L : Nat → Int64} {F : Nat → Int32} {v w x : Int32} {M f g t : Nat → Int32} {m T K W s q n : Nat}
theorem g_go0 (ht : A 6 = t) (hn : F 7 = nI n) (hn2 : n ≤ 96) (h8 : F 8 = 0) (h12 : F 12 = -1) : mh_M E 3 0 0 yX10_go [.ref R] (hM h R A L F) (fun r h' => r = none ∧ ∃ F', h' = hM h R A L F' ∧ gQ F F' ∧ tkM t n F' 0) := by
  refine mh_M.mono (c_X10_go hn hn2 (i := 0) h8 (Nat.zero_le n)) ?_
  rintro r h' ⟨rfl, F', rfl, gq, g9, g8, g10, g11, g12⟩
  rw [ht] at g9 g8 g10 g11 g12
  have hs := tS_le t hn2 0
  have hc : (F 12 = nI (adv (tpS t n) 96 0)) = False := eq_false (fun z => by
    rw [h12] at z
    exact absurd (show nI (tS t n 0) < 0 by rw [show nI (tS t n 0) = -1 from z.symm]; decide) (nI_pos (by omega)))
  rw [hc] at g10
  refine ⟨rfl, F', rfl, gq, gq.2.1.trans hn, g9, g8, g10, fun z => ?_, fun z => ?_, fun z => ?_, fun z => ?_, fun z => ?_⟩
  · exact g11.trans ((tpVW (c := False) (e := 0) hs hn2).1 z).1
  · exact g11.trans ((tpVW (c := False) (e := 0) hs hn2).2.1 z).1
  · exact g11.trans ((tpVW (c := False) (e := 0) hs hn2).2.2 z).1
  · rcases z with z | z
    · exact g12.trans ((tpVW (c := False) (d := 0) hs hn2).1 z).2
    · exact g12.trans ((tpVW (c := False) (d := 0) hs hn2).2.1 z).2
  · intro j _ hj e
    rw [g12] at e
    have e := ((tpVW (c := False) (d := 0) (e := F 12) hs hn2).2.2 z).2.1.symm.trans e
    rw [h12] at e
    exact absurd (show nI j < 0 by rw [← e]; decide) (nI_pos (by omega))
theorem g_go {k : Nat} (ht : A 6 = t) (hn2 : n ≤ 96) (hk : tkM t n F k) (h0 : ¬ tK t n k = 0) (h4 : ¬ tK t n k = 4) : mh_M E 3 0 0 yX10_go [.ref R] (hM h R A L F) (fun r h' => r = none ∧ ∃ F', h' = hM h R A L F' ∧ gQ F F' ∧ tkM t n F' (k + 1)) := by
  obtain ⟨h7, h9, h8, h10, -, -, -, h12, h13⟩ := hk
  refine mh_M.mono (c_X10_go h7 hn2 h8 (tE_le t hn2 k)) ?_
  rintro r h' ⟨rfl, F', rfl, gq, g9, g8, g10, g11, g12⟩
  rw [ht] at g9 g8 g10 g11 g12
  have hs := tS_le t hn2 (k + 1)
  have hle := tES t n k
  have hse : adv (tpS t n) 96 (tE t n k) = tS t n (k + 1) := rfl
  rw [hse] at g9 g8 g10 g11 g12
  have tel := tE_le t hn2 k
  obtain ⟨c0, hc0⟩ := tK_ex t n k
  have h3 : tK t n k = 1 ∨ tK t n k = 2 ∨ tK t n k = 3 := by
    rcases tp_cases t c0 (tS_le t hn2 k) hn2 with q | q | q | q
    · exact absurd (hc0.trans q.2.1) h0
    · rcases q.2.2.1 with z | z
      · exact Or.inl (hc0.trans z.1)
      · exact absurd (hc0.trans z) h4
    · rcases q.2.2.2.1 with z | z
      · exact Or.inr (Or.inl (hc0.trans z.1))
      · exact absurd (hc0.trans z) h4
    · exact Or.inr (Or.inr (hc0.trans q.2.2.2.1))
  have hc : (F 12 = nI (tS t n (k + 1))) = (((tK t n k = 1 ∨ tK t n k = 2) ∧ tS t n (k + 1) = tE t n k)) := by
    refine propext ⟨fun z => ?_, fun z => ?_⟩
    · rcases (show (tK t n k = 1 ∨ tK t n k = 2) ∨ tK t n k = 3 by omega) with q | q
      · rw [h12 q] at z
        exact ⟨q, ((nI_eq (by omega) (by omega)).mp z).symm⟩
      · exact absurd z (h13 q _ hle (by omega))
    · rw [z.2, h12 z.1]
  rw [hc] at g10
  have hK : tK t n (k + 1) = tpK t n (((tK t n k = 1 ∨ tK t n k = 2) ∧ tS t n (k + 1) = tE t n k)) (tS t n (k + 1)) := rfl
  refine ⟨rfl, F', rfl, gq, gq.2.1.trans h7, g9, by rw [g8, tE_eq], by rw [g10, hK], fun z => ?_, fun z => ?_, fun z => ?_, fun z => ?_, fun z => ?_⟩
  · exact g11.trans ((tpVW (e := 0) hs hn2).1 (hK ▸ z)).1
  · rw [tE_eq]; exact g11.trans ((tpVW (e := 0) hs hn2).2.1 (hK ▸ z)).1
  · exact g11.trans ((tpVW (e := 0) hs hn2).2.2 (hK ▸ z)).1
  · rw [tE_eq]
    rcases z with z | z
    · exact g12.trans ((tpVW (d := 0) hs hn2).1 (hK ▸ z)).2
    · exact g12.trans ((tpVW (d := 0) hs hn2).2.1 (hK ▸ z)).2
  · intro j hj hj2 e
    have w := (tpVW (d := 0) (e := F 12) hs hn2).2.2 (hK ▸ z)
    rw [g12, w.2.1] at e
    rw [tE_eq, w.2.2] at hj
    rcases (show (tK t n k = 1 ∨ tK t n k = 2) ∨ tK t n k = 3 by omega) with q | q
    · rw [h12 q] at e
      have := (nI_eq (by omega) (by omega)).mp e
      omega
    · exact h13 q j (by omega) hj2 e
/-- symbols: 0 the end, 1 a part, 3 a not, 4 and 5 brackets, 6 a sign, 2 all else -/
noncomputable def syT (t : Nat → Int32) (n : Nat) (key : Int32) (k : Nat) : Nat := if tK t n k = 0 then 0 else if tK t n k = 2 then 1 else if tK t n k = 1 then (if tE t n k - tS t n k = 1 ∧ 0 ≤ nmI key (t (tS t n k)) then 1 else 2) else if tK t n k = 3 then (if t (tS t n k) = 33 then 3 else if t (tS t n k) = 40 then 4 else if t (tS t n k) = 41 then 5 else if sgI (t (tS t n k)) = 0 then 2 else 6) else 2
noncomputable def syP (t : Nat → Int32) (n : Nat) (key : Int32) (k : Nat) : Int32 := if tK t n k = 2 then tpN t (tS t n k) (tE t n k - tS t n k) else 10000 + nmI key (t (tS t n k))
noncomputable def syG (t : Nat → Int32) (n : Nat) (k : Nat) : Int32 := sgI (t (tS t n k))
theorem c_X10_takesPart0 {k : Nat} (hn2 : n ≤ 96) (hk : tkM t n F k) (h1 : ¬ syT t n (F 13) k = 1) : mh_M E 4 0 0 yX10_takesPart [.ref R] (hM h R A L F) (fun r h' => r = some (.int 0) ∧ h' = hM h R A L F) := by
  obtain ⟨h7, h9, h8, h10, v1, v2, v3, h12, h13⟩ := hk
  have sl := tS_le t hn2 k
  have el := tE_le t hn2 k
  have hn2' : ¬ tK t n k = 2 := fun z => h1 (by rw [syT, if_neg (by omega), if_pos z])
  obtain ⟨c0, hc0⟩ := tK_ex t n k
  have k4 : tK t n k ≤ 4 := by
    rcases tp_cases t c0 sl hn2 with q | q | q | q
    · rw [hc0, q.2.1]; decide
    · rcases q.2.2.1 with z | z
      · rw [hc0, z.1]; decide
      · rw [hc0, z]; decide
    · rcases q.2.2.2.1 with z | z
      · rw [hc0, z.1]; decide
      · rw [hc0, z]; decide
    · rw [hc0, q.2.2.2.1]; decide
  have e2 : ¬ nI (tK t n k) = 2 := fun z => hn2' ((nI_eq (b := 2) (by omega) (by decide)).mp z)
  refine m_X10_takesPart [some (.ref R), none] rfl (Nat.le_of_ble_eq_true rfl) ?_
  have k36 : q_X10_takesPart_36 (x_X10_takesPart E 4 0 0 (fun r h' => r = some (.int 0) ∧ h' = hM h R A L F)) [some (.ref R), none] [] (hM h R A L F) 0 0 := by
    simp +decide only [e_push, e_il, e_ll, e_al, e_is, e_ls, e_as, e_asN, e_inc, e_bin, e_un, e_div, e_i2l, e_l2i, e_binL, e_lneg, e_lcmp, e_dup, e_dup2, e_pop, e_if1, e_if2, e_ifnN, e_ifnR, e_sw, e_sw0, e_sw1, e_gi, e_gr, e_pi, e_pz, e_pr, e_ald, e_lald, e_aald, e_tald, e_alen, e_tlen, e_ast, e_last, e_aast, e_newa, e_newl, e_newq, e_new, e_oi, e_cv, e_cvS, e_ci, e_cs, e_pop0, e_popS, e_iret, e_zret, e_cret, e_bret, e_aret, e_aretN, e_vret, e_gs, e_ac, e_mm, e_ma, e_ldcs, e_gcs, e_gfm, e_gsV, e_gsC, e_bln, e_bld, mh_get, mh_set, mh_one, mh_two, Value.category, mh_po, mh_mc, mh_ms, mh_d, hM_0, hM_1, hM_2, hM_3, hM_4, hM_5, hM_6, hM_7, hM_8, hM_9, hM_10, hM_11, hM_12, hM_13, hM_14, hM_15, hM_16, hM_17, hM_18, hM_19, hM_20, hM_21, hM_22, hM_p1, hM_p2, hM_p3, hM_p4, hM_p5, hM_p6, hM_p7, hM_p8, hM_p9, hM_p10, hM_p11, hM_p12, hM_p13, hM_p14, hM_p15, hM_p16, hM_p17, hM_p18, hM_p19, hM_p20, hM_p21, hM_p22, hM_fF, i_in_0, i_cl_0, i_in_1, i_cl_1, i_in_2, i_cl_2, i_in_3, i_cl_3, i_in_4, i_cl_4, i_in_5, i_cl_5, i_in_6, i_cl_6, i_in_7, i_cl_7, i_in_8, i_cl_8, i_in_9, i_cl_9, i_in_10, i_cl_10, i_in_11, i_cl_11, i_in_12, i_cl_12, i_in_13, i_cl_13, i_in_14, i_cl_14, i_in_15, i_cl_15, i_in_16, i_cl_16, i_in_17, i_cl_17, i_in_18, i_cl_18, i_in_19, i_cl_19, i_in_20, i_cl_20, i_in_21, i_cl_21, i_in_22, i_cl_22, i_in_23, i_cl_23, i_in_24, i_cl_24, i_in_25, i_cl_25, i_in_26, i_cl_26, i_in_27, i_cl_27, i_in_28, i_cl_28, i_in_29, i_cl_29, i_in_30, i_cl_30, i_in_31, i_cl_31, i_in_32, i_cl_32, i_in_33, i_cl_33, fF_3, fF_7, fF_8, fF_9, fF_10, fF_11, fF_12, fF_13, fF_17, fF_18, fF_20, fF_33, q_X10_takesPart_36, q_X10_takesPart_37, h10, e2, false_implies, true_implies, implies_true, not_true_eq_false, not_false_eq_true, true_or, or_true, and_self, and_assoc, Option.some.injEq, Sum.inl.injEq, Sum.inr.injEq, Prod.mk.injEq, Value.int.injEq, Value.ref.injEq, Value.long.injEq, true_and, and_true, exists_and_left, exists_and_right, exists_eq_left, exists_eq_left', List.getElem?_cons_zero, List.getElem?_cons_succ, List.length_cons, List.length_nil, List.set_cons_zero, List.set_cons_succ, Option.toList, List.cons_append, List.nil_append, List.append_nil, Nat.zero_add, Nat.le_refl, Nat.zero_le, beq_self_eq_true, Option.isNone_none]
  simp +decide only [e_push, e_il, e_ll, e_al, e_is, e_ls, e_as, e_asN, e_inc, e_bin, e_un, e_div, e_i2l, e_l2i, e_binL, e_lneg, e_lcmp, e_dup, e_dup2, e_pop, e_if1, e_if2, e_ifnN, e_ifnR, e_sw, e_sw0, e_sw1, e_gi, e_gr, e_pi, e_pz, e_pr, e_ald, e_lald, e_aald, e_tald, e_alen, e_tlen, e_ast, e_last, e_aast, e_newa, e_newl, e_newq, e_new, e_oi, e_cv, e_cvS, e_ci, e_cs, e_pop0, e_popS, e_iret, e_zret, e_cret, e_bret, e_aret, e_aretN, e_vret, e_gs, e_ac, e_mm, e_ma, e_ldcs, e_gcs, e_gfm, e_gsV, e_gsC, e_bln, e_bld, mh_get, mh_set, mh_one, mh_two, Value.category, mh_po, mh_mc, mh_ms, mh_d, hM_0, hM_1, hM_2, hM_3, hM_4, hM_5, hM_6, hM_7, hM_8, hM_9, hM_10, hM_11, hM_12, hM_13, hM_14, hM_15, hM_16, hM_17, hM_18, hM_19, hM_20, hM_21, hM_22, hM_p1, hM_p2, hM_p3, hM_p4, hM_p5, hM_p6, hM_p7, hM_p8, hM_p9, hM_p10, hM_p11, hM_p12, hM_p13, hM_p14, hM_p15, hM_p16, hM_p17, hM_p18, hM_p19, hM_p20, hM_p21, hM_p22, hM_fF, i_in_0, i_cl_0, i_in_1, i_cl_1, i_in_2, i_cl_2, i_in_3, i_cl_3, i_in_4, i_cl_4, i_in_5, i_cl_5, i_in_6, i_cl_6, i_in_7, i_cl_7, i_in_8, i_cl_8, i_in_9, i_cl_9, i_in_10, i_cl_10, i_in_11, i_cl_11, i_in_12, i_cl_12, i_in_13, i_cl_13, i_in_14, i_cl_14, i_in_15, i_cl_15, i_in_16, i_cl_16, i_in_17, i_cl_17, i_in_18, i_cl_18, i_in_19, i_cl_19, i_in_20, i_cl_20, i_in_21, i_cl_21, i_in_22, i_cl_22, i_in_23, i_cl_23, i_in_24, i_cl_24, i_in_25, i_cl_25, i_in_26, i_cl_26, i_in_27, i_cl_27, i_in_28, i_cl_28, i_in_29, i_cl_29, i_in_30, i_cl_30, i_in_31, i_cl_31, i_in_32, i_cl_32, i_in_33, i_cl_33, fF_3, fF_7, fF_8, fF_9, fF_10, fF_11, fF_12, fF_13, fF_17, fF_18, fF_20, fF_33, q_X10_takesPart_0, h10, false_implies, true_implies, implies_true, not_true_eq_false, not_false_eq_true, true_or, or_true, and_self, and_assoc, Option.some.injEq, Sum.inl.injEq, Sum.inr.injEq, Prod.mk.injEq, Value.int.injEq, Value.ref.injEq, Value.long.injEq, true_and, and_true, exists_and_left, exists_and_right, exists_eq_left, exists_eq_left', List.getElem?_cons_zero, List.getElem?_cons_succ, List.length_cons, List.length_nil, List.set_cons_zero, List.set_cons_succ, Option.toList, List.cons_append, List.nil_append, List.append_nil, Nat.zero_add, Nat.le_refl, Nat.zero_le, beq_self_eq_true, Option.isNone_none]
  refine ⟨fun e => k36, fun e => ?_⟩
  have hk1 : tK t n k = 1 := (nI_eq (b := 1) (by omega) (by decide)).mp (Classical.not_not.mp e)
  have hlt := (tK0 t hn2 k (by omega)).2
  have hsub : nI (tE t n k) - nI (tS t n k) = nI (tE t n k - tS t n k) := pk_sub (by omega)
  simp +decide only [e_push, e_il, e_ll, e_al, e_is, e_ls, e_as, e_asN, e_inc, e_bin, e_un, e_div, e_i2l, e_l2i, e_binL, e_lneg, e_lcmp, e_dup, e_dup2, e_pop, e_if1, e_if2, e_ifnN, e_ifnR, e_sw, e_sw0, e_sw1, e_gi, e_gr, e_pi, e_pz, e_pr, e_ald, e_lald, e_aald, e_tald, e_alen, e_tlen, e_ast, e_last, e_aast, e_newa, e_newl, e_newq, e_new, e_oi, e_cv, e_cvS, e_ci, e_cs, e_pop0, e_popS, e_iret, e_zret, e_cret, e_bret, e_aret, e_aretN, e_vret, e_gs, e_ac, e_mm, e_ma, e_ldcs, e_gcs, e_gfm, e_gsV, e_gsC, e_bln, e_bld, mh_get, mh_set, mh_one, mh_two, Value.category, mh_po, mh_mc, mh_ms, mh_d, hM_0, hM_1, hM_2, hM_3, hM_4, hM_5, hM_6, hM_7, hM_8, hM_9, hM_10, hM_11, hM_12, hM_13, hM_14, hM_15, hM_16, hM_17, hM_18, hM_19, hM_20, hM_21, hM_22, hM_p1, hM_p2, hM_p3, hM_p4, hM_p5, hM_p6, hM_p7, hM_p8, hM_p9, hM_p10, hM_p11, hM_p12, hM_p13, hM_p14, hM_p15, hM_p16, hM_p17, hM_p18, hM_p19, hM_p20, hM_p21, hM_p22, hM_fF, i_in_0, i_cl_0, i_in_1, i_cl_1, i_in_2, i_cl_2, i_in_3, i_cl_3, i_in_4, i_cl_4, i_in_5, i_cl_5, i_in_6, i_cl_6, i_in_7, i_cl_7, i_in_8, i_cl_8, i_in_9, i_cl_9, i_in_10, i_cl_10, i_in_11, i_cl_11, i_in_12, i_cl_12, i_in_13, i_cl_13, i_in_14, i_cl_14, i_in_15, i_cl_15, i_in_16, i_cl_16, i_in_17, i_cl_17, i_in_18, i_cl_18, i_in_19, i_cl_19, i_in_20, i_cl_20, i_in_21, i_cl_21, i_in_22, i_cl_22, i_in_23, i_cl_23, i_in_24, i_cl_24, i_in_25, i_cl_25, i_in_26, i_cl_26, i_in_27, i_cl_27, i_in_28, i_cl_28, i_in_29, i_cl_29, i_in_30, i_cl_30, i_in_31, i_cl_31, i_in_32, i_cl_32, i_in_33, i_cl_33, fF_3, fF_7, fF_8, fF_9, fF_10, fF_11, fF_12, fF_13, fF_17, fF_18, fF_20, fF_33, h8, h9, hsub, false_implies, true_implies, implies_true, not_true_eq_false, not_false_eq_true, true_or, or_true, and_self, and_assoc, Option.some.injEq, Sum.inl.injEq, Sum.inr.injEq, Prod.mk.injEq, Value.int.injEq, Value.ref.injEq, Value.long.injEq, true_and, and_true, exists_and_left, exists_and_right, exists_eq_left, exists_eq_left', List.getElem?_cons_zero, List.getElem?_cons_succ, List.length_cons, List.length_nil, List.set_cons_zero, List.set_cons_succ, Option.toList, List.cons_append, List.nil_append, List.append_nil, Nat.zero_add, Nat.le_refl, Nat.zero_le, beq_self_eq_true, Option.isNone_none]
  refine ⟨fun e => k36, fun e => ?_⟩
  have e := (nI_eq (b := 1) (by omega) (by decide)).mp (Classical.not_not.mp e)
  simp +decide only [e_push, e_il, e_ll, e_al, e_is, e_ls, e_as, e_asN, e_inc, e_bin, e_un, e_div, e_i2l, e_l2i, e_binL, e_lneg, e_lcmp, e_dup, e_dup2, e_pop, e_if1, e_if2, e_ifnN, e_ifnR, e_sw, e_sw0, e_sw1, e_gi, e_gr, e_pi, e_pz, e_pr, e_ald, e_lald, e_aald, e_tald, e_alen, e_tlen, e_ast, e_last, e_aast, e_newa, e_newl, e_newq, e_new, e_oi, e_cv, e_cvS, e_ci, e_cs, e_pop0, e_popS, e_iret, e_zret, e_cret, e_bret, e_aret, e_aretN, e_vret, e_gs, e_ac, e_mm, e_ma, e_ldcs, e_gcs, e_gfm, e_gsV, e_gsC, e_bln, e_bld, mh_get, mh_set, mh_one, mh_two, Value.category, mh_po, mh_mc, mh_ms, mh_d, hM_0, hM_1, hM_2, hM_3, hM_4, hM_5, hM_6, hM_7, hM_8, hM_9, hM_10, hM_11, hM_12, hM_13, hM_14, hM_15, hM_16, hM_17, hM_18, hM_19, hM_20, hM_21, hM_22, hM_p1, hM_p2, hM_p3, hM_p4, hM_p5, hM_p6, hM_p7, hM_p8, hM_p9, hM_p10, hM_p11, hM_p12, hM_p13, hM_p14, hM_p15, hM_p16, hM_p17, hM_p18, hM_p19, hM_p20, hM_p21, hM_p22, hM_fF, i_in_0, i_cl_0, i_in_1, i_cl_1, i_in_2, i_cl_2, i_in_3, i_cl_3, i_in_4, i_cl_4, i_in_5, i_cl_5, i_in_6, i_cl_6, i_in_7, i_cl_7, i_in_8, i_cl_8, i_in_9, i_cl_9, i_in_10, i_cl_10, i_in_11, i_cl_11, i_in_12, i_cl_12, i_in_13, i_cl_13, i_in_14, i_cl_14, i_in_15, i_cl_15, i_in_16, i_cl_16, i_in_17, i_cl_17, i_in_18, i_cl_18, i_in_19, i_cl_19, i_in_20, i_cl_20, i_in_21, i_cl_21, i_in_22, i_cl_22, i_in_23, i_cl_23, i_in_24, i_cl_24, i_in_25, i_cl_25, i_in_26, i_cl_26, i_in_27, i_cl_27, i_in_28, i_cl_28, i_in_29, i_cl_29, i_in_30, i_cl_30, i_in_31, i_cl_31, i_in_32, i_cl_32, i_in_33, i_cl_33, fF_3, fF_7, fF_8, fF_9, fF_10, fF_11, fF_12, fF_13, fF_17, fF_18, fF_20, fF_33, v1 hk1, false_implies, true_implies, implies_true, not_true_eq_false, not_false_eq_true, true_or, or_true, and_self, and_assoc, Option.some.injEq, Sum.inl.injEq, Sum.inr.injEq, Prod.mk.injEq, Value.int.injEq, Value.ref.injEq, Value.long.injEq, true_and, and_true, exists_and_left, exists_and_right, exists_eq_left, exists_eq_left', List.getElem?_cons_zero, List.getElem?_cons_succ, List.length_cons, List.length_nil, List.set_cons_zero, List.set_cons_succ, Option.toList, List.cons_append, List.nil_append, List.append_nil, Nat.zero_add, Nat.le_refl, Nat.zero_le, beq_self_eq_true, Option.isNone_none]
  refine ⟨⟨_, rfl⟩, mh_ex (c_X10_nameOf) (Nat.le_of_ble_eq_true rfl) (Nat.le_of_ble_eq_true rfl) (Nat.le_of_ble_eq_true rfl) (Nat.le_of_ble_eq_true rfl) ?_⟩
  simp +decide only [e_push, e_il, e_ll, e_al, e_is, e_ls, e_as, e_asN, e_inc, e_bin, e_un, e_div, e_i2l, e_l2i, e_binL, e_lneg, e_lcmp, e_dup, e_dup2, e_pop, e_if1, e_if2, e_ifnN, e_ifnR, e_sw, e_sw0, e_sw1, e_gi, e_gr, e_pi, e_pz, e_pr, e_ald, e_lald, e_aald, e_tald, e_alen, e_tlen, e_ast, e_last, e_aast, e_newa, e_newl, e_newq, e_new, e_oi, e_cv, e_cvS, e_ci, e_cs, e_pop0, e_popS, e_iret, e_zret, e_cret, e_bret, e_aret, e_aretN, e_vret, e_gs, e_ac, e_mm, e_ma, e_ldcs, e_gcs, e_gfm, e_gsV, e_gsC, e_bln, e_bld, mh_get, mh_set, mh_one, mh_two, Value.category, mh_po, mh_mc, mh_ms, mh_d, hM_0, hM_1, hM_2, hM_3, hM_4, hM_5, hM_6, hM_7, hM_8, hM_9, hM_10, hM_11, hM_12, hM_13, hM_14, hM_15, hM_16, hM_17, hM_18, hM_19, hM_20, hM_21, hM_22, hM_p1, hM_p2, hM_p3, hM_p4, hM_p5, hM_p6, hM_p7, hM_p8, hM_p9, hM_p10, hM_p11, hM_p12, hM_p13, hM_p14, hM_p15, hM_p16, hM_p17, hM_p18, hM_p19, hM_p20, hM_p21, hM_p22, hM_fF, i_in_0, i_cl_0, i_in_1, i_cl_1, i_in_2, i_cl_2, i_in_3, i_cl_3, i_in_4, i_cl_4, i_in_5, i_cl_5, i_in_6, i_cl_6, i_in_7, i_cl_7, i_in_8, i_cl_8, i_in_9, i_cl_9, i_in_10, i_cl_10, i_in_11, i_cl_11, i_in_12, i_cl_12, i_in_13, i_cl_13, i_in_14, i_cl_14, i_in_15, i_cl_15, i_in_16, i_cl_16, i_in_17, i_cl_17, i_in_18, i_cl_18, i_in_19, i_cl_19, i_in_20, i_cl_20, i_in_21, i_cl_21, i_in_22, i_cl_22, i_in_23, i_cl_23, i_in_24, i_cl_24, i_in_25, i_cl_25, i_in_26, i_cl_26, i_in_27, i_cl_27, i_in_28, i_cl_28, i_in_29, i_cl_29, i_in_30, i_cl_30, i_in_31, i_cl_31, i_in_32, i_cl_32, i_in_33, i_cl_33, fF_3, fF_7, fF_8, fF_9, fF_10, fF_11, fF_12, fF_13, fF_17, fF_18, fF_20, fF_33, false_implies, true_implies, implies_true, not_true_eq_false, not_false_eq_true, true_or, or_true, and_self, and_assoc, Option.some.injEq, Sum.inl.injEq, Sum.inr.injEq, Prod.mk.injEq, Value.int.injEq, Value.ref.injEq, Value.long.injEq, true_and, and_true, exists_and_left, exists_and_right, exists_eq_left, exists_eq_left', List.getElem?_cons_zero, List.getElem?_cons_succ, List.length_cons, List.length_nil, List.set_cons_zero, List.set_cons_succ, Option.toList, List.cons_append, List.nil_append, List.append_nil, Nat.zero_add, Nat.le_refl, Nat.zero_le, beq_self_eq_true, Option.isNone_none]
  refine ⟨fun _ => k36, fun e3 => ?_⟩
  exact absurd (by rw [syT, if_neg (by omega), if_neg hn2', if_pos hk1, if_pos ⟨e, Int32.not_lt.mp e3⟩]) h1
theorem c_X10_takesPart1 {k at_ : Nat} {C H : List Int32} (ht : A 6 = t) (hn2 : n ≤ 96) (hk : tkM t n F k) (hp : pS A F C H) (ha : F 18 = nI at_) (hl : C.length + H.length + 1 ≤ 96) (h1 : syT t n (F 13) k = 1) : mh_M E 4 0 0 yX10_takesPart [.ref R] (hM h R A L F) (fun r h' => r = some (.int 1) ∧ ∃ A' F', h' = hM h R A' L F' ∧ aP A A' ∧ A' 11 = A 11 ∧ gP F F' ∧ tkM t n F' (k + 1) ∧ pS A' F' (setl 6 H (C ++ [syP t n (F 13) k])).2 (setl 6 H (C ++ [syP t n (F 13) k])).1 ∧ F' 18 = nI (at_ + 1)) := by
  have hk' := hk
  obtain ⟨h7, h9, h8, h10, v1, v2, v3, h12, h13⟩ := hk'
  have sl := tS_le t hn2 k
  have el := tE_le t hn2 k
  obtain ⟨p1, p2, p3, p4⟩ := hp
  have hvc : vp_in (nI C.length) 96 := vp_in_nI (by omega) (by decide)
  have hclc : (nI C.length).toNatClampNeg = C.length := nI_clamp (by omega)
  have k87 : ∀ o, ¬ tK t n k = 0 → ¬ tK t n k = 4 → q_X10_takesPart_87 (x_X10_takesPart E 4 0 0 (fun r h' => r = some (.int 1) ∧ ∃ A' F', h' = hM h R A' L F' ∧ aP A A' ∧ A' 11 = A 11 ∧ gP F F' ∧ tkM t n F' (k + 1) ∧ pS A' F' (setl 6 H (C ++ [syP t n (F 13) k])).2 (setl 6 H (C ++ [syP t n (F 13) k])).1 ∧ F' 18 = nI (at_ + 1))) [some (.ref R), o] [.int (syP t n (F 13) k), .int (nI C.length), .ref (R + 9)] (hM h R A L F) 0 0 := by
    intro o k0 k4
    simp +decide only [e_push, e_il, e_ll, e_al, e_is, e_ls, e_as, e_asN, e_inc, e_bin, e_un, e_div, e_i2l, e_l2i, e_binL, e_lneg, e_lcmp, e_dup, e_dup2, e_pop, e_if1, e_if2, e_ifnN, e_ifnR, e_sw, e_sw0, e_sw1, e_gi, e_gr, e_pi, e_pz, e_pr, e_ald, e_lald, e_aald, e_tald, e_alen, e_tlen, e_ast, e_last, e_aast, e_newa, e_newl, e_newq, e_new, e_oi, e_cv, e_cvS, e_ci, e_cs, e_pop0, e_popS, e_iret, e_zret, e_cret, e_bret, e_aret, e_aretN, e_vret, e_gs, e_ac, e_mm, e_ma, e_ldcs, e_gcs, e_gfm, e_gsV, e_gsC, e_bln, e_bld, mh_get, mh_set, mh_one, mh_two, Value.category, mh_po, mh_mc, mh_ms, mh_d, hM_0, hM_1, hM_2, hM_3, hM_4, hM_5, hM_6, hM_7, hM_8, hM_9, hM_10, hM_11, hM_12, hM_13, hM_14, hM_15, hM_16, hM_17, hM_18, hM_19, hM_20, hM_21, hM_22, hM_p1, hM_p2, hM_p3, hM_p4, hM_p5, hM_p6, hM_p7, hM_p8, hM_p9, hM_p10, hM_p11, hM_p12, hM_p13, hM_p14, hM_p15, hM_p16, hM_p17, hM_p18, hM_p19, hM_p20, hM_p21, hM_p22, hM_fF, i_in_0, i_cl_0, i_in_1, i_cl_1, i_in_2, i_cl_2, i_in_3, i_cl_3, i_in_4, i_cl_4, i_in_5, i_cl_5, i_in_6, i_cl_6, i_in_7, i_cl_7, i_in_8, i_cl_8, i_in_9, i_cl_9, i_in_10, i_cl_10, i_in_11, i_cl_11, i_in_12, i_cl_12, i_in_13, i_cl_13, i_in_14, i_cl_14, i_in_15, i_cl_15, i_in_16, i_cl_16, i_in_17, i_cl_17, i_in_18, i_cl_18, i_in_19, i_cl_19, i_in_20, i_cl_20, i_in_21, i_cl_21, i_in_22, i_cl_22, i_in_23, i_cl_23, i_in_24, i_cl_24, i_in_25, i_cl_25, i_in_26, i_cl_26, i_in_27, i_cl_27, i_in_28, i_cl_28, i_in_29, i_cl_29, i_in_30, i_cl_30, i_in_31, i_cl_31, i_in_32, i_cl_32, i_in_33, i_cl_33, fF_3, fF_7, fF_8, fF_9, fF_10, fF_11, fF_12, fF_13, fF_17, fF_18, fF_20, fF_33, q_X10_takesPart_87, hvc, hclc, p3, ha, nI_1, false_implies, true_implies, implies_true, not_true_eq_false, not_false_eq_true, true_or, or_true, and_self, and_assoc, Option.some.injEq, Sum.inl.injEq, Sum.inr.injEq, Prod.mk.injEq, Value.int.injEq, Value.ref.injEq, Value.long.injEq, true_and, and_true, exists_and_left, exists_and_right, exists_eq_left, exists_eq_left', List.getElem?_cons_zero, List.getElem?_cons_succ, List.length_cons, List.length_nil, List.set_cons_zero, List.set_cons_succ, Option.toList, List.cons_append, List.nil_append, List.append_nil, Nat.zero_add, Nat.le_refl, Nat.zero_le, beq_self_eq_true, Option.isNone_none]
    refine ⟨⟨_, rfl⟩, mh_ez (c_X10_settle (C := C ++ [syP t n (F 13) k]) (H := H) ?_ (by simp; omega)) (Nat.le_of_ble_eq_true rfl) (Nat.le_of_ble_eq_true rfl) (Nat.le_of_ble_eq_true rfl) (Nat.le_of_ble_eq_true rfl) ?_⟩
    · refine ⟨?_, ?_, ?_, p4⟩
      · rw [va_up_self]; exact preL_push p1
      · rw [va_up_ne _ _ (by decide)]; exact p2
      · rw [fF_17]; simp
    · rintro r h' ⟨rfl, a9, F1, rfl, hp1, fq⟩
      rw [bx_uu] at hp1 ⊢
      simp +decide only [e_push, e_il, e_ll, e_al, e_is, e_ls, e_as, e_asN, e_inc, e_bin, e_un, e_div, e_i2l, e_l2i, e_binL, e_lneg, e_lcmp, e_dup, e_dup2, e_pop, e_if1, e_if2, e_ifnN, e_ifnR, e_sw, e_sw0, e_sw1, e_gi, e_gr, e_pi, e_pz, e_pr, e_ald, e_lald, e_aald, e_tald, e_alen, e_tlen, e_ast, e_last, e_aast, e_newa, e_newl, e_newq, e_new, e_oi, e_cv, e_cvS, e_ci, e_cs, e_pop0, e_popS, e_iret, e_zret, e_cret, e_bret, e_aret, e_aretN, e_vret, e_gs, e_ac, e_mm, e_ma, e_ldcs, e_gcs, e_gfm, e_gsV, e_gsC, e_bln, e_bld, mh_get, mh_set, mh_one, mh_two, Value.category, mh_po, mh_mc, mh_ms, mh_d, hM_0, hM_1, hM_2, hM_3, hM_4, hM_5, hM_6, hM_7, hM_8, hM_9, hM_10, hM_11, hM_12, hM_13, hM_14, hM_15, hM_16, hM_17, hM_18, hM_19, hM_20, hM_21, hM_22, hM_p1, hM_p2, hM_p3, hM_p4, hM_p5, hM_p6, hM_p7, hM_p8, hM_p9, hM_p10, hM_p11, hM_p12, hM_p13, hM_p14, hM_p15, hM_p16, hM_p17, hM_p18, hM_p19, hM_p20, hM_p21, hM_p22, hM_fF, i_in_0, i_cl_0, i_in_1, i_cl_1, i_in_2, i_cl_2, i_in_3, i_cl_3, i_in_4, i_cl_4, i_in_5, i_cl_5, i_in_6, i_cl_6, i_in_7, i_cl_7, i_in_8, i_cl_8, i_in_9, i_cl_9, i_in_10, i_cl_10, i_in_11, i_cl_11, i_in_12, i_cl_12, i_in_13, i_cl_13, i_in_14, i_cl_14, i_in_15, i_cl_15, i_in_16, i_cl_16, i_in_17, i_cl_17, i_in_18, i_cl_18, i_in_19, i_cl_19, i_in_20, i_cl_20, i_in_21, i_cl_21, i_in_22, i_cl_22, i_in_23, i_cl_23, i_in_24, i_cl_24, i_in_25, i_cl_25, i_in_26, i_cl_26, i_in_27, i_cl_27, i_in_28, i_cl_28, i_in_29, i_cl_29, i_in_30, i_cl_30, i_in_31, i_cl_31, i_in_32, i_cl_32, i_in_33, i_cl_33, fF_3, fF_7, fF_8, fF_9, fF_10, fF_11, fF_12, fF_13, fF_17, fF_18, fF_20, fF_33, false_implies, true_implies, implies_true, not_true_eq_false, not_false_eq_true, true_or, or_true, and_self, and_assoc, Option.some.injEq, Sum.inl.injEq, Sum.inr.injEq, Prod.mk.injEq, Value.int.injEq, Value.ref.injEq, Value.long.injEq, true_and, and_true, exists_and_left, exists_and_right, exists_eq_left, exists_eq_left', List.getElem?_cons_zero, List.getElem?_cons_succ, List.length_cons, List.length_nil, List.set_cons_zero, List.set_cons_succ, Option.toList, List.cons_append, List.nil_append, List.append_nil, Nat.zero_add, Nat.le_refl, Nat.zero_le, beq_self_eq_true, Option.isNone_none]
      refine ⟨⟨_, rfl⟩, mh_ez (g_go (t := t) (n := n) (k := k) (by rw [va_up_ne _ _ (by decide)]; exact ht) hn2 ?_ k0 k4) (Nat.le_of_ble_eq_true rfl) (Nat.le_of_ble_eq_true rfl) (Nat.le_of_ble_eq_true rfl) (Nat.le_of_ble_eq_true rfl) ?_⟩
      · refine ⟨?_, ?_, ?_, ?_, ?_, ?_, ?_, ?_, ?_⟩
        · rw [fq 7 (by decide) (by decide)]; exact h7
        · rw [fq 9 (by decide) (by decide)]; exact h9
        · rw [fq 8 (by decide) (by decide)]; exact h8
        · rw [fq 10 (by decide) (by decide)]; exact h10
        · rw [fq 11 (by decide) (by decide)]; exact v1
        · rw [fq 11 (by decide) (by decide)]; exact v2
        · rw [fq 11 (by decide) (by decide)]; exact v3
        · rw [fq 12 (by decide) (by decide)]; exact h12
        · rw [fq 12 (by decide) (by decide)]; exact h13
      · rintro r h' ⟨rfl, F2, rfl, gq, htk⟩
        simp +decide only [e_push, e_il, e_ll, e_al, e_is, e_ls, e_as, e_asN, e_inc, e_bin, e_un, e_div, e_i2l, e_l2i, e_binL, e_lneg, e_lcmp, e_dup, e_dup2, e_pop, e_if1, e_if2, e_ifnN, e_ifnR, e_sw, e_sw0, e_sw1, e_gi, e_gr, e_pi, e_pz, e_pr, e_ald, e_lald, e_aald, e_tald, e_alen, e_tlen, e_ast, e_last, e_aast, e_newa, e_newl, e_newq, e_new, e_oi, e_cv, e_cvS, e_ci, e_cs, e_pop0, e_popS, e_iret, e_zret, e_cret, e_bret, e_aret, e_aretN, e_vret, e_gs, e_ac, e_mm, e_ma, e_ldcs, e_gcs, e_gfm, e_gsV, e_gsC, e_bln, e_bld, mh_get, mh_set, mh_one, mh_two, Value.category, mh_po, mh_mc, mh_ms, mh_d, hM_0, hM_1, hM_2, hM_3, hM_4, hM_5, hM_6, hM_7, hM_8, hM_9, hM_10, hM_11, hM_12, hM_13, hM_14, hM_15, hM_16, hM_17, hM_18, hM_19, hM_20, hM_21, hM_22, hM_p1, hM_p2, hM_p3, hM_p4, hM_p5, hM_p6, hM_p7, hM_p8, hM_p9, hM_p10, hM_p11, hM_p12, hM_p13, hM_p14, hM_p15, hM_p16, hM_p17, hM_p18, hM_p19, hM_p20, hM_p21, hM_p22, hM_fF, i_in_0, i_cl_0, i_in_1, i_cl_1, i_in_2, i_cl_2, i_in_3, i_cl_3, i_in_4, i_cl_4, i_in_5, i_cl_5, i_in_6, i_cl_6, i_in_7, i_cl_7, i_in_8, i_cl_8, i_in_9, i_cl_9, i_in_10, i_cl_10, i_in_11, i_cl_11, i_in_12, i_cl_12, i_in_13, i_cl_13, i_in_14, i_cl_14, i_in_15, i_cl_15, i_in_16, i_cl_16, i_in_17, i_cl_17, i_in_18, i_cl_18, i_in_19, i_cl_19, i_in_20, i_cl_20, i_in_21, i_cl_21, i_in_22, i_cl_22, i_in_23, i_cl_23, i_in_24, i_cl_24, i_in_25, i_cl_25, i_in_26, i_cl_26, i_in_27, i_cl_27, i_in_28, i_cl_28, i_in_29, i_cl_29, i_in_30, i_cl_30, i_in_31, i_cl_31, i_in_32, i_cl_32, i_in_33, i_cl_33, fF_3, fF_7, fF_8, fF_9, fF_10, fF_11, fF_12, fF_13, fF_17, fF_18, fF_20, fF_33, false_implies, true_implies, implies_true, not_true_eq_false, not_false_eq_true, true_or, or_true, and_self, and_assoc, Option.some.injEq, Sum.inl.injEq, Sum.inr.injEq, Prod.mk.injEq, Value.int.injEq, Value.ref.injEq, Value.long.injEq, true_and, and_true, exists_and_left, exists_and_right, exists_eq_left, exists_eq_left', List.getElem?_cons_zero, List.getElem?_cons_succ, List.length_cons, List.length_nil, List.set_cons_zero, List.set_cons_succ, Option.toList, List.cons_append, List.nil_append, List.append_nil, Nat.zero_add, Nat.le_refl, Nat.zero_le, beq_self_eq_true, Option.isNone_none]
        refine ⟨_, F2, rfl, aP9, va_up_ne _ _ (by decide), ⟨?_, ?_, ?_⟩, htk, ⟨hp1.1, hp1.2.1, gq.2.2.2.1.trans hp1.2.2.1, gq.2.2.2.2.2.1.trans hp1.2.2.2⟩, ?_⟩
        · rw [gq.1, fq 3 (by decide) (by decide)]; rfl
        · rw [gq.2.2.1, fq 13 (by decide) (by decide)]; rfl
        · rw [gq.2.2.2.2.2.2, fq 33 (by decide) (by decide)]; rfl
        · rw [gq.2.2.2.2.1, fq 18 (by decide) (by decide)]; rfl
  refine m_X10_takesPart [some (.ref R), none] rfl (Nat.le_of_ble_eq_true rfl) ?_
  by_cases e2 : tK t n k = 2
  · have eP : syP t n (F 13) k = F 11 := by rw [syP, if_pos e2, v2 e2]
    have := k87 (some (.int 0)) (by omega) (by omega)
    rw [eP] at this
    have n1 : ¬ nI 2 = (1 : Int32) := by decide
    have n2 : nI 2 = (2 : Int32) := rfl
    simp +decide only [e_push, e_il, e_ll, e_al, e_is, e_ls, e_as, e_asN, e_inc, e_bin, e_un, e_div, e_i2l, e_l2i, e_binL, e_lneg, e_lcmp, e_dup, e_dup2, e_pop, e_if1, e_if2, e_ifnN, e_ifnR, e_sw, e_sw0, e_sw1, e_gi, e_gr, e_pi, e_pz, e_pr, e_ald, e_lald, e_aald, e_tald, e_alen, e_tlen, e_ast, e_last, e_aast, e_newa, e_newl, e_newq, e_new, e_oi, e_cv, e_cvS, e_ci, e_cs, e_pop0, e_popS, e_iret, e_zret, e_cret, e_bret, e_aret, e_aretN, e_vret, e_gs, e_ac, e_mm, e_ma, e_ldcs, e_gcs, e_gfm, e_gsV, e_gsC, e_bln, e_bld, mh_get, mh_set, mh_one, mh_two, Value.category, mh_po, mh_mc, mh_ms, mh_d, hM_0, hM_1, hM_2, hM_3, hM_4, hM_5, hM_6, hM_7, hM_8, hM_9, hM_10, hM_11, hM_12, hM_13, hM_14, hM_15, hM_16, hM_17, hM_18, hM_19, hM_20, hM_21, hM_22, hM_p1, hM_p2, hM_p3, hM_p4, hM_p5, hM_p6, hM_p7, hM_p8, hM_p9, hM_p10, hM_p11, hM_p12, hM_p13, hM_p14, hM_p15, hM_p16, hM_p17, hM_p18, hM_p19, hM_p20, hM_p21, hM_p22, hM_fF, i_in_0, i_cl_0, i_in_1, i_cl_1, i_in_2, i_cl_2, i_in_3, i_cl_3, i_in_4, i_cl_4, i_in_5, i_cl_5, i_in_6, i_cl_6, i_in_7, i_cl_7, i_in_8, i_cl_8, i_in_9, i_cl_9, i_in_10, i_cl_10, i_in_11, i_cl_11, i_in_12, i_cl_12, i_in_13, i_cl_13, i_in_14, i_cl_14, i_in_15, i_cl_15, i_in_16, i_cl_16, i_in_17, i_cl_17, i_in_18, i_cl_18, i_in_19, i_cl_19, i_in_20, i_cl_20, i_in_21, i_cl_21, i_in_22, i_cl_22, i_in_23, i_cl_23, i_in_24, i_cl_24, i_in_25, i_cl_25, i_in_26, i_cl_26, i_in_27, i_cl_27, i_in_28, i_cl_28, i_in_29, i_cl_29, i_in_30, i_cl_30, i_in_31, i_cl_31, i_in_32, i_cl_32, i_in_33, i_cl_33, fF_3, fF_7, fF_8, fF_9, fF_10, fF_11, fF_12, fF_13, fF_17, fF_18, fF_20, fF_33, q_X10_takesPart_0, h10, e2, n1, n2, q_X10_takesPart_36, q_X10_takesPart_37, q_X10_takesPart_52, p3, false_implies, true_implies, implies_true, not_true_eq_false, not_false_eq_true, true_or, or_true, and_self, and_assoc, Option.some.injEq, Sum.inl.injEq, Sum.inr.injEq, Prod.mk.injEq, Value.int.injEq, Value.ref.injEq, Value.long.injEq, true_and, and_true, exists_and_left, exists_and_right, exists_eq_left, exists_eq_left', List.getElem?_cons_zero, List.getElem?_cons_succ, List.length_cons, List.length_nil, List.set_cons_zero, List.set_cons_succ, Option.toList, List.cons_append, List.nil_append, List.append_nil, Nat.zero_add, Nat.le_refl, Nat.zero_le, beq_self_eq_true, Option.isNone_none]
    rw [eP]
    exact this
  · have e0 : ¬ tK t n k = 0 := fun z => by rw [syT, if_pos z] at h1; exact absurd h1 (by decide)
    rw [syT, if_neg e0, if_neg e2] at h1
    by_cases e1 : tK t n k = 1
    · rw [if_pos e1] at h1
      by_cases e3 : tE t n k - tS t n k = 1 ∧ 0 ≤ nmI (F 13) (t (tS t n k))
      · have hlt := (tK0 t hn2 k (by omega)).2
        have hsub : nI (tE t n k) - nI (tS t n k) = nI 1 := by rw [pk_sub (by omega), e3.1]
        have eP : syP t n (F 13) k = 10000 + nmI (F 13) (t (tS t n k)) := by rw [syP, if_neg e2]
        have := k87 (some (.int 1)) (by omega) (by omega)
        have n1 : nI 1 = (1 : Int32) := rfl
        simp +decide only [e_push, e_il, e_ll, e_al, e_is, e_ls, e_as, e_asN, e_inc, e_bin, e_un, e_div, e_i2l, e_l2i, e_binL, e_lneg, e_lcmp, e_dup, e_dup2, e_pop, e_if1, e_if2, e_ifnN, e_ifnR, e_sw, e_sw0, e_sw1, e_gi, e_gr, e_pi, e_pz, e_pr, e_ald, e_lald, e_aald, e_tald, e_alen, e_tlen, e_ast, e_last, e_aast, e_newa, e_newl, e_newq, e_new, e_oi, e_cv, e_cvS, e_ci, e_cs, e_pop0, e_popS, e_iret, e_zret, e_cret, e_bret, e_aret, e_aretN, e_vret, e_gs, e_ac, e_mm, e_ma, e_ldcs, e_gcs, e_gfm, e_gsV, e_gsC, e_bln, e_bld, mh_get, mh_set, mh_one, mh_two, Value.category, mh_po, mh_mc, mh_ms, mh_d, hM_0, hM_1, hM_2, hM_3, hM_4, hM_5, hM_6, hM_7, hM_8, hM_9, hM_10, hM_11, hM_12, hM_13, hM_14, hM_15, hM_16, hM_17, hM_18, hM_19, hM_20, hM_21, hM_22, hM_p1, hM_p2, hM_p3, hM_p4, hM_p5, hM_p6, hM_p7, hM_p8, hM_p9, hM_p10, hM_p11, hM_p12, hM_p13, hM_p14, hM_p15, hM_p16, hM_p17, hM_p18, hM_p19, hM_p20, hM_p21, hM_p22, hM_fF, i_in_0, i_cl_0, i_in_1, i_cl_1, i_in_2, i_cl_2, i_in_3, i_cl_3, i_in_4, i_cl_4, i_in_5, i_cl_5, i_in_6, i_cl_6, i_in_7, i_cl_7, i_in_8, i_cl_8, i_in_9, i_cl_9, i_in_10, i_cl_10, i_in_11, i_cl_11, i_in_12, i_cl_12, i_in_13, i_cl_13, i_in_14, i_cl_14, i_in_15, i_cl_15, i_in_16, i_cl_16, i_in_17, i_cl_17, i_in_18, i_cl_18, i_in_19, i_cl_19, i_in_20, i_cl_20, i_in_21, i_cl_21, i_in_22, i_cl_22, i_in_23, i_cl_23, i_in_24, i_cl_24, i_in_25, i_cl_25, i_in_26, i_cl_26, i_in_27, i_cl_27, i_in_28, i_cl_28, i_in_29, i_cl_29, i_in_30, i_cl_30, i_in_31, i_cl_31, i_in_32, i_cl_32, i_in_33, i_cl_33, fF_3, fF_7, fF_8, fF_9, fF_10, fF_11, fF_12, fF_13, fF_17, fF_18, fF_20, fF_33, q_X10_takesPart_0, h10, e1, n1, h8, h9, hsub, v1 e1, false_implies, true_implies, implies_true, not_true_eq_false, not_false_eq_true, true_or, or_true, and_self, and_assoc, Option.some.injEq, Sum.inl.injEq, Sum.inr.injEq, Prod.mk.injEq, Value.int.injEq, Value.ref.injEq, Value.long.injEq, true_and, and_true, exists_and_left, exists_and_right, exists_eq_left, exists_eq_left', List.getElem?_cons_zero, List.getElem?_cons_succ, List.length_cons, List.length_nil, List.set_cons_zero, List.set_cons_succ, Option.toList, List.cons_append, List.nil_append, List.append_nil, Nat.zero_add, Nat.le_refl, Nat.zero_le, beq_self_eq_true, Option.isNone_none]
        refine ⟨⟨_, rfl⟩, mh_ex (c_X10_nameOf) (Nat.le_of_ble_eq_true rfl) (Nat.le_of_ble_eq_true rfl) (Nat.le_of_ble_eq_true rfl) (Nat.le_of_ble_eq_true rfl) ?_⟩
        simp +decide only [e_push, e_il, e_ll, e_al, e_is, e_ls, e_as, e_asN, e_inc, e_bin, e_un, e_div, e_i2l, e_l2i, e_binL, e_lneg, e_lcmp, e_dup, e_dup2, e_pop, e_if1, e_if2, e_ifnN, e_ifnR, e_sw, e_sw0, e_sw1, e_gi, e_gr, e_pi, e_pz, e_pr, e_ald, e_lald, e_aald, e_tald, e_alen, e_tlen, e_ast, e_last, e_aast, e_newa, e_newl, e_newq, e_new, e_oi, e_cv, e_cvS, e_ci, e_cs, e_pop0, e_popS, e_iret, e_zret, e_cret, e_bret, e_aret, e_aretN, e_vret, e_gs, e_ac, e_mm, e_ma, e_ldcs, e_gcs, e_gfm, e_gsV, e_gsC, e_bln, e_bld, mh_get, mh_set, mh_one, mh_two, Value.category, mh_po, mh_mc, mh_ms, mh_d, hM_0, hM_1, hM_2, hM_3, hM_4, hM_5, hM_6, hM_7, hM_8, hM_9, hM_10, hM_11, hM_12, hM_13, hM_14, hM_15, hM_16, hM_17, hM_18, hM_19, hM_20, hM_21, hM_22, hM_p1, hM_p2, hM_p3, hM_p4, hM_p5, hM_p6, hM_p7, hM_p8, hM_p9, hM_p10, hM_p11, hM_p12, hM_p13, hM_p14, hM_p15, hM_p16, hM_p17, hM_p18, hM_p19, hM_p20, hM_p21, hM_p22, hM_fF, i_in_0, i_cl_0, i_in_1, i_cl_1, i_in_2, i_cl_2, i_in_3, i_cl_3, i_in_4, i_cl_4, i_in_5, i_cl_5, i_in_6, i_cl_6, i_in_7, i_cl_7, i_in_8, i_cl_8, i_in_9, i_cl_9, i_in_10, i_cl_10, i_in_11, i_cl_11, i_in_12, i_cl_12, i_in_13, i_cl_13, i_in_14, i_cl_14, i_in_15, i_cl_15, i_in_16, i_cl_16, i_in_17, i_cl_17, i_in_18, i_cl_18, i_in_19, i_cl_19, i_in_20, i_cl_20, i_in_21, i_cl_21, i_in_22, i_cl_22, i_in_23, i_cl_23, i_in_24, i_cl_24, i_in_25, i_cl_25, i_in_26, i_cl_26, i_in_27, i_cl_27, i_in_28, i_cl_28, i_in_29, i_cl_29, i_in_30, i_cl_30, i_in_31, i_cl_31, i_in_32, i_cl_32, i_in_33, i_cl_33, fF_3, fF_7, fF_8, fF_9, fF_10, fF_11, fF_12, fF_13, fF_17, fF_18, fF_20, fF_33, Int32.not_lt.mpr e3.2, q_X10_takesPart_37, h10, e1, n1, q_X10_takesPart_52, p3, v1 e1, false_implies, true_implies, implies_true, not_true_eq_false, not_false_eq_true, true_or, or_true, and_self, and_assoc, Option.some.injEq, Sum.inl.injEq, Sum.inr.injEq, Prod.mk.injEq, Value.int.injEq, Value.ref.injEq, Value.long.injEq, true_and, and_true, exists_and_left, exists_and_right, exists_eq_left, exists_eq_left', List.getElem?_cons_zero, List.getElem?_cons_succ, List.length_cons, List.length_nil, List.set_cons_zero, List.set_cons_succ, Option.toList, List.cons_append, List.nil_append, List.append_nil, Nat.zero_add, Nat.le_refl, Nat.zero_le, beq_self_eq_true, Option.isNone_none]
        refine ⟨⟨_, rfl⟩, mh_ex (c_X10_nameOf) (Nat.le_of_ble_eq_true rfl) (Nat.le_of_ble_eq_true rfl) (Nat.le_of_ble_eq_true rfl) (Nat.le_of_ble_eq_true rfl) ?_⟩
        simp +decide only [e_push, e_il, e_ll, e_al, e_is, e_ls, e_as, e_asN, e_inc, e_bin, e_un, e_div, e_i2l, e_l2i, e_binL, e_lneg, e_lcmp, e_dup, e_dup2, e_pop, e_if1, e_if2, e_ifnN, e_ifnR, e_sw, e_sw0, e_sw1, e_gi, e_gr, e_pi, e_pz, e_pr, e_ald, e_lald, e_aald, e_tald, e_alen, e_tlen, e_ast, e_last, e_aast, e_newa, e_newl, e_newq, e_new, e_oi, e_cv, e_cvS, e_ci, e_cs, e_pop0, e_popS, e_iret, e_zret, e_cret, e_bret, e_aret, e_aretN, e_vret, e_gs, e_ac, e_mm, e_ma, e_ldcs, e_gcs, e_gfm, e_gsV, e_gsC, e_bln, e_bld, mh_get, mh_set, mh_one, mh_two, Value.category, mh_po, mh_mc, mh_ms, mh_d, hM_0, hM_1, hM_2, hM_3, hM_4, hM_5, hM_6, hM_7, hM_8, hM_9, hM_10, hM_11, hM_12, hM_13, hM_14, hM_15, hM_16, hM_17, hM_18, hM_19, hM_20, hM_21, hM_22, hM_p1, hM_p2, hM_p3, hM_p4, hM_p5, hM_p6, hM_p7, hM_p8, hM_p9, hM_p10, hM_p11, hM_p12, hM_p13, hM_p14, hM_p15, hM_p16, hM_p17, hM_p18, hM_p19, hM_p20, hM_p21, hM_p22, hM_fF, i_in_0, i_cl_0, i_in_1, i_cl_1, i_in_2, i_cl_2, i_in_3, i_cl_3, i_in_4, i_cl_4, i_in_5, i_cl_5, i_in_6, i_cl_6, i_in_7, i_cl_7, i_in_8, i_cl_8, i_in_9, i_cl_9, i_in_10, i_cl_10, i_in_11, i_cl_11, i_in_12, i_cl_12, i_in_13, i_cl_13, i_in_14, i_cl_14, i_in_15, i_cl_15, i_in_16, i_cl_16, i_in_17, i_cl_17, i_in_18, i_cl_18, i_in_19, i_cl_19, i_in_20, i_cl_20, i_in_21, i_cl_21, i_in_22, i_cl_22, i_in_23, i_cl_23, i_in_24, i_cl_24, i_in_25, i_cl_25, i_in_26, i_cl_26, i_in_27, i_cl_27, i_in_28, i_cl_28, i_in_29, i_cl_29, i_in_30, i_cl_30, i_in_31, i_cl_31, i_in_32, i_cl_32, i_in_33, i_cl_33, fF_3, fF_7, fF_8, fF_9, fF_10, fF_11, fF_12, fF_13, fF_17, fF_18, fF_20, fF_33, false_implies, true_implies, implies_true, not_true_eq_false, not_false_eq_true, true_or, or_true, and_self, and_assoc, Option.some.injEq, Sum.inl.injEq, Sum.inr.injEq, Prod.mk.injEq, Value.int.injEq, Value.ref.injEq, Value.long.injEq, true_and, and_true, exists_and_left, exists_and_right, exists_eq_left, exists_eq_left', List.getElem?_cons_zero, List.getElem?_cons_succ, List.length_cons, List.length_nil, List.set_cons_zero, List.set_cons_succ, Option.toList, List.cons_append, List.nil_append, List.append_nil, Nat.zero_add, Nat.le_refl, Nat.zero_le, beq_self_eq_true, Option.isNone_none]
        rw [← eP]
        exact this
      · rw [if_neg e3] at h1
        exact absurd h1 (by decide)
    · rw [if_neg e1] at h1
      split at h1
      · exfalso
        (repeat' split at h1) <;> exact absurd h1 (by decide)
      · exact absurd h1 (by decide)
end MOS
