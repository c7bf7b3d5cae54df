/-! PART 39: the model: what a stone keeps; a year -/
/-- the facts of a TEXT -/
def f3 (a b c : Int32) : Nat → Int32 := fun j => if j = 0 then a else if j = 1 then b else c
theorem dl_pos {cs : Nat → Int32} {n : Nat} (hk : ∀ k, k < n → dl cs k ≤ 95 ∧ (0 ≤ cs k → cs k < 10000 ∨ ∃ j : Nat, j < 3 ∧ cs k = nI (10000 + j)) ∧ (cs k < 0 → (cs k = -10 → 1 ≤ dl cs k) ∧ (¬ cs k = -10 → 2 ≤ dl cs k))) {S0 S1 fa fb : Nat → Int32} (hf : ∀ j, j < 3 → fa j = fb j) : ∀ k, k ≤ n → ∀ j, j < dl cs k → r_st S0 cs fa k j = r_st S1 cs fb k j := by
  intro k
  induction k with
  | zero => intro _ j hj; exact absurd hj (Nat.not_lt_zero j)
  | succ k ih =>
    intro hkn j hj
    have ih := ih (by omega)
    obtain ⟨hd, hpos, hneg⟩ := hk k (by omega)
    rw [r_st, r_st]
    by_cases e : cs k < 0
    · by_cases e2 : cs k = -10
      · have h1 := (hneg e).1 e2
        rw [dl, if_pos e, if_pos e2] at hj
        rw [if_pos e, if_pos e2, if_pos e, if_pos e2, ih (dl cs k - 1) (by omega)]
        by_cases q : j = dl cs k - 1
        · simp [upd, q]
        · simp only [upd, q, if_false]
          exact ih j hj
      · have h1 := (hneg e).2 e2
        rw [dl, if_pos e, if_neg e2] at hj
        rw [if_pos e, if_neg e2, if_pos e, if_neg e2, ih (dl cs k - 1) (by omega), ih (dl cs k - 2) (by omega)]
        by_cases q : j = dl cs k - 2
        · simp [upd, q]
        · simp only [upd, q, if_false]
          exact ih j (by omega)
    · rw [dl, if_neg e] at hj
      rw [if_neg e, if_neg e]
      have hv : r_v fa (cs k) = r_v fb (cs k) := by
        unfold r_v
        split
        · rfl
        · rename_i hlt
          rcases hpos (Int32.not_lt.mp e) with q | ⟨i, hi, q⟩
          · exact absurd q hlt
          · have hz : nI (10000 + i) - 10000 = nI i := by
              have := pk_sub (a := 10000 + i) (b := 10000) (by omega)
              rw [show 10000 + i - 10000 = i by omega] at this
              exact this
            rw [q, hz, nI_clamp (by omega)]
            exact hf i hi
      rw [hv]
      by_cases q : j = dl cs k
      · simp [upd, q]
      · simp only [upd, q, if_false]
        exact ih j (by omega)
/-- what a TEXT gives -/
def r_val (cs fa : Nat → Int32) (n : Nat) : Int32 := r_st (fun _ => 0) cs fa n 0
theorem r_val_of {cs fa fb S0 : Nat → Int32} {n : Nat} (hw : wfT cs n) (hf : ∀ j, j < 3 → fa j = fb j) : r_st S0 cs fa n 0 = r_val cs fb n := dl_pos hw.2.2 hf n (Nat.le_refl n) 0 (by rw [hw.2.1]; decide)
/-- the TEXTS of a row are in order -/
def wfN (N : Nat → Int32) (T : Nat) : Prop := N 7 = nI T ∧ T ≤ 14 ∧ ∀ t, t < T → ∃ key n : Nat, key < 3 ∧ N (80 + 2 * t) = nI (1000 * key + n) ∧ wfT (fun k => N (108 + 96 * t + k)) n
theorem r_cnt_cases (N : Nat → Int32) (key : Int32) : ∀ k, r_cnt N key k = -1 ∨ ∃ t, t < k ∧ r_cnt N key k = nI t
  | 0 => Or.inl rfl
  | k + 1 => by
    by_cases e : N (80 + 2 * k) / 1000 = key
    · exact Or.inr ⟨k, Nat.lt_succ_self k, by rw [r_cnt, cI_t e]⟩
    · rw [r_cnt, cI_f e]
      rcases r_cnt_cases N key k with q | ⟨t, h1, h2⟩
      · exact Or.inl q
      · exact Or.inr ⟨t, Nat.lt_succ_of_lt h1, h2⟩
/-- what the TEXT numbered t gives -/
def r_tv (N : Nat → Int32) (t : Nat) (fa : Nat → Int32) : Int32 := r_val (fun k => N (108 + 96 * t + k)) fa (mh_rem (N (80 + 2 * t)) 1000).toNatClampNeg
/-- what a KEY gives: by its TEXT, or without one -/
noncomputable def r_gv (N : Nat → Int32) (T : Nat) (key : Int32) (fa : Nat → Int32) (d : Int32) : Int32 := cI (0 ≤ r_cnt N key T) (r_tv N (r_cnt N key T).toNatClampNeg fa) d
/-- rows that are only written on -/
def sc (A : Nat → Nat → Int32) (f g : Nat → Int32) : Nat → Nat → Int32 := va_up (va_up A 13 f) 12 g
theorem sc_ne {A : Nat → Nat → Int32} {f g : Nat → Int32} {r : Nat} (h1 : r ≠ 12) (h2 : r ≠ 13) : sc A f g r = A r := by simp [sc, va_up, h1, h2]
theorem sc_sc {A : Nat → Nat → Int32} {f g f' g' : Nat → Int32} : sc (sc A f g) f' g' = sc A f' g' := by
  funext r
  by_cases e : r = 12 <;> by_cases e2 : r = 13 <;> simp [sc, va_up, e, e2]
theorem sc_up {A : Nat → Nat → Int32} {f g k : Nat → Int32} {r : Nat} (h1 : r ≠ 12) (h2 : r ≠ 13) : va_up (sc A f g) r k = sc (va_up A r k) f g := by
  funext q
  by_cases e : q = r
  · subst e; simp [sc, va_up, h1, h2]
  · by_cases e3 : q = 12 <;> by_cases e2 : q = 13 <;> simp_all [sc, va_up]
theorem sc_id {A : Nat → Nat → Int32} : sc A (A 13) (A 12) = A := by
  funext r
  by_cases e : r = 12 <;> by_cases e2 : r = 13 <;> simp_all [sc, va_up]
section MOE
variable {E : mh_E} {h : mh_H} {R : Nat} {A : Nat → Nat → Int32} {L : Nat → Int64} {F : Nat → Int32} {v w x : Int32}
theorem c_X10_wO {T t : Nat} (hN : wfN (A 1) T) (ht : t < T) {fa : Nat → Int32} (hf : ∀ j, j < 3 → A 13 j = fa j) : mh_M E 1 0 0 yX10_worksOut [.ref R, .int (nI t)] (hM h R A L F) (fun r h' => r = some (.int (r_tv (A 1) t fa)) ∧ ∃ g, h' = hM h R (sc A (A 13) g) L F) := by
  obtain ⟨h7, hT, hN⟩ := hN
  obtain ⟨key, n, hkey, hn, hwf⟩ := hN t ht
  refine mh_M.mono (c_X10_worksOut (by omega) hkey hn (fun k _ => rfl) hwf) ?_
  rintro r h' ⟨rfl, rfl⟩
  refine ⟨?_, r_st (A 12) (fun k => A 1 (108 + 96 * t + k)) (A 13) n, ?_⟩
  · rw [r_val_of hwf hf, r_tv, hn, (i_md hkey (show n < 1000 by have := hwf.1; omega)).1, nI_clamp (by have := hwf.1; omega)]
  · congr 1
    rw [sc]
    congr 1
    funext q
    by_cases e : q = 13 <;> simp [va_up, e]
end MOE
