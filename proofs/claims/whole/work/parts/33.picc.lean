/-! PART 33: the picture of a City: 0 itself, 1 People, 2 squares, 3 ranks, 4 crowds, 5 able, 6 its row of Stones, 7 Laws, 8 its row of Texts, 9 last, 10 .. 19 the Stones -/
def kC_st (b : Nat) : Nat → Option Nat := fun j => if j < 10 then some (b + 10 + j) else none
def kC (b : Nat) (V : Nat → Nat → Int32) (X : Nat → Option Nat) (i : Nat) : Option mh_C := match i with
  | 0 => some (.inr (.inl (0, [.ref (b + 1), .ref (b + 6), .ref (b + 7), .int (V 0 3), .int (V 0 4), .int (V 0 5), .int (V 0 6), .int (V 0 7), .int (V 0 8), .int (V 0 9)])))
  | 1 => some (.inr (.inl (3, [.ref (b + 2), .ref (b + 3), .ref (b + 4), .ref (b + 5)])))
  | 2 => some (.inl (0, 6, .inl (V 2)))
  | 3 => some (.inl (0, 6, .inl (V 3)))
  | 4 => some (.inl (0, 4, .inl (V 4)))
  | 5 => some (.inl (0, 10, .inl (V 5)))
  | 6 => some (.inl (6, 10, .inr (.inr (.inr (.inr (kC_st b))))))
  | 7 => some (.inr (.inl (2, [.ref (b + 8), .ref (b + 9), .int (V 7 2)])))
  | 8 => some (.inl (7, 14, .inr (.inr (.inr (.inr X)))))
  | 9 => some (.inl (0, 3, .inl (V 9)))
  | i => if i < 20 then some (k_St (V i)) else none
def hC (h : mh_H) (b : Nat) (V : Nat → Nat → Int32) (X : Nat → Option Nat) : mh_H := ov h b 20 (kC b V X)
section HC
variable {h : mh_H} {b : Nat} {V : Nat → Nat → Int32} {X : Nat → Option Nat}
theorem hC_0 : (hC h b V X).2 b = some (.inr (.inl (0, [.ref (b + 1), .ref (b + 6), .ref (b + 7), .int (V 0 3), .int (V 0 4), .int (V 0 5), .int (V 0 6), .int (V 0 7), .int (V 0 8), .int (V 0 9)]))) := ov_in0 (by decide)
theorem hC_1 : (hC h b V X).2 (b + 1) = some (.inr (.inl (3, [.ref (b + 2), .ref (b + 3), .ref (b + 4), .ref (b + 5)]))) := ov_in (by decide)
theorem hC_2 : (hC h b V X).2 (b + 2) = some (.inl (0, 6, .inl (V 2))) := ov_in (by decide)
theorem hC_3 : (hC h b V X).2 (b + 3) = some (.inl (0, 6, .inl (V 3))) := ov_in (by decide)
theorem hC_4 : (hC h b V X).2 (b + 4) = some (.inl (0, 4, .inl (V 4))) := ov_in (by decide)
theorem hC_5 : (hC h b V X).2 (b + 5) = some (.inl (0, 10, .inl (V 5))) := ov_in (by decide)
theorem hC_6 : (hC h b V X).2 (b + 6) = some (.inl (6, 10, .inr (.inr (.inr (.inr (kC_st b)))))) := ov_in (by decide)
theorem hC_7 : (hC h b V X).2 (b + 7) = some (.inr (.inl (2, [.ref (b + 8), .ref (b + 9), .int (V 7 2)]))) := ov_in (by decide)
theorem hC_8 : (hC h b V X).2 (b + 8) = some (.inl (7, 14, .inr (.inr (.inr (.inr X))))) := ov_in (by decide)
theorem hC_9 : (hC h b V X).2 (b + 9) = some (.inl (0, 3, .inl (V 9))) := ov_in (by decide)
theorem kC_s {i : Nat} (hi : i < 10) : kC b V X (10 + i) = some (k_St (V (10 + i))) := by
  unfold kC
  split <;> first | omega | (rw [if_pos (by omega)])
theorem hC_s {i : Nat} (hi : i < 10) : (hC h b V X).2 (b + 10 + i) = some (k_St (V (10 + i))) := by
  rw [hC, Nat.add_assoc, ov_in (by omega), kC_s hi]
theorem hC_rf {i : Nat} (hi : i < 10) : va_rf (kC_st b i) = .ref (b + 10 + i) := by
  unfold kC_st
  rw [if_pos hi]
  rfl
theorem hC_ps {i : Nat} {g : Nat → Int32} (hi : i < 10) : mh_put (hC h b V X) (b + 10 + i) (k_St g) = hC h b (va_up V (10 + i) g) X := by
  rw [hC, Nat.add_assoc, ov_put (by omega)]
  refine ov_ext fun j hj => ?_
  by_cases e : j = 10 + i
  · subst e
    rw [if_pos rfl, kC_s hi, va_up_self]
  · simp only [e, if_false]
    unfold kC
    split <;> simp_all [va_up]
    all_goals (first | omega | (intro z; omega) | skip)
theorem hC_p2 {f : Nat → Int32} : mh_put (hC h b V X) (b + 2) (.inl (0, 6, .inl f)) = hC h b (va_up V 2 f) X := by
  rw [hC, ov_put (by decide)]
  refine ov_ext fun j hj => ?_
  by_cases e : j = 2
  · subst e
    simp [kC, va_up]
  · simp only [e, if_false]
    unfold kC
    split <;> simp_all [va_up]
    all_goals (first | omega | (intro z; omega) | skip)
theorem hC_p3 {f : Nat → Int32} : mh_put (hC h b V X) (b + 3) (.inl (0, 6, .inl f)) = hC h b (va_up V 3 f) X := by
  rw [hC, ov_put (by decide)]
  refine ov_ext fun j hj => ?_
  by_cases e : j = 3
  · subst e
    simp [kC, va_up]
  · simp only [e, if_false]
    unfold kC
    split <;> simp_all [va_up]
    all_goals (first | omega | (intro z; omega) | skip)
theorem hC_p4 {f : Nat → Int32} : mh_put (hC h b V X) (b + 4) (.inl (0, 4, .inl f)) = hC h b (va_up V 4 f) X := by
  rw [hC, ov_put (by decide)]
  refine ov_ext fun j hj => ?_
  by_cases e : j = 4
  · subst e
    simp [kC, va_up]
  · simp only [e, if_false]
    unfold kC
    split <;> simp_all [va_up]
    all_goals (first | omega | (intro z; omega) | skip)
theorem hC_p5 {f : Nat → Int32} : mh_put (hC h b V X) (b + 5) (.inl (0, 10, .inl f)) = hC h b (va_up V 5 f) X := by
  rw [hC, ov_put (by decide)]
  refine ov_ext fun j hj => ?_
  by_cases e : j = 5
  · subst e
    simp [kC, va_up]
  · simp only [e, if_false]
    unfold kC
    split <;> simp_all [va_up]
    all_goals (first | omega | (intro z; omega) | skip)
theorem hC_p9 {f : Nat → Int32} : mh_put (hC h b V X) (b + 9) (.inl (0, 3, .inl f)) = hC h b (va_up V 9 f) X := by
  rw [hC, ov_put (by decide)]
  refine ov_ext fun j hj => ?_
  by_cases e : j = 9
  · subst e
    simp [kC, va_up]
  · simp only [e, if_false]
    unfold kC
    split <;> simp_all [va_up]
    all_goals (first | omega | (intro z; omega) | skip)
theorem hC_p8 {Y : Nat → Option Nat} : mh_put (hC h b V X) (b + 8) (.inl (7, 14, .inr (.inr (.inr (.inr Y))))) = hC h b V Y := by
  rw [hC, ov_put (by decide)]
  refine ov_ext fun j hj => ?_
  by_cases e : j = 8
  · subst e
    simp [kC]
  · simp only [e, if_false]
    unfold kC
    split <;> first | rfl | simp_all
theorem hC_p7 {x : Int32} : mh_put (hC h b V X) (b + 7) (.inr (.inl (2, [.ref (b + 8), .ref (b + 9), .int x]))) = hC h b (va_up V 7 (upd (V 7) 2 x)) X := by
  rw [hC, ov_put (by decide)]
  refine ov_ext fun j hj => ?_
  by_cases e : j = 7
  · subst e
    simp [kC, va_up, upd]
  · simp only [e, if_false]
    unfold kC
    split <;> simp_all [va_up]
    all_goals (first | omega | (intro z; omega) | skip)
theorem hC_f3 {x : Int32} : mh_put (hC h b V X) b (.inr (.inl (0, [.ref (b + 1), .ref (b + 6), .ref (b + 7), .int x, .int (V 0 4), .int (V 0 5), .int (V 0 6), .int (V 0 7), .int (V 0 8), .int (V 0 9)]))) = hC h b (va_up V 0 (upd (V 0) 3 x)) X := by
  rw [hC, ov_put0 (by decide)]
  refine ov_ext fun i hi => ?_
  by_cases e : i = 0
  · subst e
    simp [kC, va_up, upd]
  · simp only [e, if_false]
    unfold kC
    split <;> simp_all [va_up]
    all_goals (first | omega | (intro z; omega) | skip)
theorem hC_f4 {x : Int32} : mh_put (hC h b V X) b (.inr (.inl (0, [.ref (b + 1), .ref (b + 6), .ref (b + 7), .int (V 0 3), .int x, .int (V 0 5), .int (V 0 6), .int (V 0 7), .int (V 0 8), .int (V 0 9)]))) = hC h b (va_up V 0 (upd (V 0) 4 x)) X := by
  rw [hC, ov_put0 (by decide)]
  refine ov_ext fun i hi => ?_
  by_cases e : i = 0
  · subst e
    simp [kC, va_up, upd]
  · simp only [e, if_false]
    unfold kC
    split <;> simp_all [va_up]
    all_goals (first | omega | (intro z; omega) | skip)
theorem hC_f5 {x : Int32} : mh_put (hC h b V X) b (.inr (.inl (0, [.ref (b + 1), .ref (b + 6), .ref (b + 7), .int (V 0 3), .int (V 0 4), .int x, .int (V 0 6), .int (V 0 7), .int (V 0 8), .int (V 0 9)]))) = hC h b (va_up V 0 (upd (V 0) 5 x)) X := by
  rw [hC, ov_put0 (by decide)]
  refine ov_ext fun i hi => ?_
  by_cases e : i = 0
  · subst e
    simp [kC, va_up, upd]
  · simp only [e, if_false]
    unfold kC
    split <;> simp_all [va_up]
    all_goals (first | omega | (intro z; omega) | skip)
theorem hC_f6 {x : Int32} : mh_put (hC h b V X) b (.inr (.inl (0, [.ref (b + 1), .ref (b + 6), .ref (b + 7), .int (V 0 3), .int (V 0 4), .int (V 0 5), .int x, .int (V 0 7), .int (V 0 8), .int (V 0 9)]))) = hC h b (va_up V 0 (upd (V 0) 6 x)) X := by
  rw [hC, ov_put0 (by decide)]
  refine ov_ext fun i hi => ?_
  by_cases e : i = 0
  · subst e
    simp [kC, va_up, upd]
  · simp only [e, if_false]
    unfold kC
    split <;> simp_all [va_up]
    all_goals (first | omega | (intro z; omega) | skip)
theorem hC_f7 {x : Int32} : mh_put (hC h b V X) b (.inr (.inl (0, [.ref (b + 1), .ref (b + 6), .ref (b + 7), .int (V 0 3), .int (V 0 4), .int (V 0 5), .int (V 0 6), .int x, .int (V 0 8), .int (V 0 9)]))) = hC h b (va_up V 0 (upd (V 0) 7 x)) X := by
  rw [hC, ov_put0 (by decide)]
  refine ov_ext fun i hi => ?_
  by_cases e : i = 0
  · subst e
    simp [kC, va_up, upd]
  · simp only [e, if_false]
    unfold kC
    split <;> simp_all [va_up]
    all_goals (first | omega | (intro z; omega) | skip)
theorem hC_f8 {x : Int32} : mh_put (hC h b V X) b (.inr (.inl (0, [.ref (b + 1), .ref (b + 6), .ref (b + 7), .int (V 0 3), .int (V 0 4), .int (V 0 5), .int (V 0 6), .int (V 0 7), .int x, .int (V 0 9)]))) = hC h b (va_up V 0 (upd (V 0) 8 x)) X := by
  rw [hC, ov_put0 (by decide)]
  refine ov_ext fun i hi => ?_
  by_cases e : i = 0
  · subst e
    simp [kC, va_up, upd]
  · simp only [e, if_false]
    unfold kC
    split <;> simp_all [va_up]
    all_goals (first | omega | (intro z; omega) | skip)
theorem hC_f9 {x : Int32} : mh_put (hC h b V X) b (.inr (.inl (0, [.ref (b + 1), .ref (b + 6), .ref (b + 7), .int (V 0 3), .int (V 0 4), .int (V 0 5), .int (V 0 6), .int (V 0 7), .int (V 0 8), .int x]))) = hC h b (va_up V 0 (upd (V 0) 9 x)) X := by
  rw [hC, ov_put0 (by decide)]
  refine ov_ext fun i hi => ?_
  by_cases e : i = 0
  · subst e
    simp [kC, va_up, upd]
  · simp only [e, if_false]
    unfold kC
    split <;> simp_all [va_up]
    all_goals (first | omega | (intro z; omega) | skip)
end HC
