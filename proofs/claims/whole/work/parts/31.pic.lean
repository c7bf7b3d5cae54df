/-! PART 31: pictures: a block of cells laid over a heap; the model's block -/
def ov (h : mh_H) (R n : Nat) (blk : Nat → Option mh_C) : mh_H := (h.1, fun q => if R ≤ q ∧ q < R + n then blk (q - R) else h.2 q)
theorem ov_in {h : mh_H} {R n i : Nat} {blk : Nat → Option mh_C} (hi : i < n) : (ov h R n blk).2 (R + i) = blk i := by
  have h1 : R ≤ R + i ∧ R + i < R + n := ⟨Nat.le_add_right _ _, by omega⟩
  simp only [ov, h1, and_self, if_true]
  rw [Nat.add_sub_cancel_left]
theorem ov_in0 {h : mh_H} {R n : Nat} {blk : Nat → Option mh_C} (hi : 0 < n) : (ov h R n blk).2 R = blk 0 := ov_in (i := 0) hi
theorem ov_out {h : mh_H} {R n q : Nat} {blk : Nat → Option mh_C} (hq : ¬ (R ≤ q ∧ q < R + n)) : (ov h R n blk).2 q = h.2 q := by simp only [ov, hq, if_false]
theorem ov_sz {h : mh_H} {R n : Nat} {blk : Nat → Option mh_C} : (ov h R n blk).1 = h.1 := rfl
theorem ov_ext {h : mh_H} {R n : Nat} {blk blk' : Nat → Option mh_C} (hb : ∀ i, i < n → blk i = blk' i) : ov h R n blk = ov h R n blk' := by
  refine Prod.ext rfl (funext fun q => ?_)
  by_cases hq : R ≤ q ∧ q < R + n
  · simp only [ov, hq, and_self, if_true]
    exact hb _ (by omega)
  · simp only [ov, hq, if_false]
theorem ov_put {h : mh_H} {R n i : Nat} {blk : Nat → Option mh_C} {c : mh_C} (hi : i < n) : mh_put (ov h R n blk) (R + i) c = ov h R n (fun j => if j = i then some c else blk j) := by
  refine Prod.ext rfl (funext fun q => ?_)
  by_cases hq : R ≤ q ∧ q < R + n
  · by_cases e : q = R + i
    · subst e
      simp only [mh_put, ov, hq, and_self, if_true]
      rw [Nat.add_sub_cancel_left]
      simp
    · have e2 : ¬ q - R = i := by omega
      simp only [mh_put, ov, hq, and_self, if_true, e, if_false, e2]
  · have e : ¬ q = R + i := by omega
    simp only [mh_put, ov, hq, if_false, e]
theorem ov_put0 {h : mh_H} {R n : Nat} {blk : Nat → Option mh_C} {c : mh_C} (hi : 0 < n) : mh_put (ov h R n blk) R c = ov h R n (fun j => if j = 0 then some c else blk j) := ov_put (i := 0) hi
def km (R : Nat) (A : Nat → Nat → Int32) (L : Nat → Int64) (F : Nat → Int32) (i : Nat) : Option mh_C := match i with
  | 0 => some (.inr (.inl (10, [.ref (R + 1), .ref (R + 2), .ref (R + 3), .int (F 3), .ref (R + 4), .ref (R + 5), .ref (R + 6), .int (F 7), .int (F 8), .int (F 9), .int (F 10), .int (F 11), .int (F 12), .int (F 13), .ref (R + 7), .ref (R + 8), .ref (R + 9), .int (F 17), .int (F 18), .ref (R + 10), .int (F 20), .ref (R + 11), .ref (R + 12), .ref (R + 13), .ref (R + 14), .ref (R + 15), .ref (R + 16), .ref (R + 17), .ref (R + 18), .ref (R + 19), .ref (R + 20), .ref (R + 21), .ref (R + 22), .int (F 33)])))
  | 1 => some (.inl (0, 1452, .inl (A 1)))
  | 2 => some (.inl (0, 1452, .inl (A 2)))
  | 3 => some (.inl (0, 1452, .inl (A 3)))
  | 4 => some (.inl (0, 80, .inl (A 4)))
  | 5 => some (.inl (3, 6, .inr (.inl L)))
  | 6 => some (.inl (0, 96, .inl (A 6)))
  | 7 => some (.inl (1, 11, .inl (A 7)))
  | 8 => some (.inl (0, 4, .inl (A 8)))
  | 9 => some (.inl (0, 96, .inl (A 9)))
  | 10 => some (.inl (0, 96, .inl (A 10)))
  | 11 => some (.inl (2, 10, .inl (A 11)))
  | 12 => some (.inl (0, 96, .inl (A 12)))
  | 13 => some (.inl (0, 4, .inl (A 13)))
  | 14 => some (.inl (0, 4, .inl (A 14)))
  | 15 => some (.inl (0, 4, .inl (A 15)))
  | 16 => some (.inl (0, 96, .inl (A 16)))
  | 17 => some (.inl (0, 5, .inl (A 17)))
  | 18 => some (.inl (0, 5, .inl (A 18)))
  | 19 => some (.inl (0, 5, .inl (A 19)))
  | 20 => some (.inl (0, 120, .inl (A 20)))
  | 21 => some (.inl (0, 24, .inl (A 21)))
  | 22 => some (.inl (0, 60, .inl (A 22)))
  | _ => none
def hM (h : mh_H) (R : Nat) (A : Nat → Nat → Int32) (L : Nat → Int64) (F : Nat → Int32) : mh_H := ov h R 23 (km R A L F)
section HM
variable {h : mh_H} {R : Nat} {A : Nat → Nat → Int32} {L : Nat → Int64} {F : Nat → Int32}
theorem hM_0 : (hM h R A L F).2 R = some (.inr (.inl (10, [.ref (R + 1), .ref (R + 2), .ref (R + 3), .int (F 3), .ref (R + 4), .ref (R + 5), .ref (R + 6), .int (F 7), .int (F 8), .int (F 9), .int (F 10), .int (F 11), .int (F 12), .int (F 13), .ref (R + 7), .ref (R + 8), .ref (R + 9), .int (F 17), .int (F 18), .ref (R + 10), .int (F 20), .ref (R + 11), .ref (R + 12), .ref (R + 13), .ref (R + 14), .ref (R + 15), .ref (R + 16), .ref (R + 17), .ref (R + 18), .ref (R + 19), .ref (R + 20), .ref (R + 21), .ref (R + 22), .int (F 33)]))) := ov_in0 (by decide)
theorem hM_1 : (hM h R A L F).2 (R + 1) = some (.inl (0, 1452, .inl (A 1))) := ov_in (by decide)
theorem hM_2 : (hM h R A L F).2 (R + 2) = some (.inl (0, 1452, .inl (A 2))) := ov_in (by decide)
theorem hM_3 : (hM h R A L F).2 (R + 3) = some (.inl (0, 1452, .inl (A 3))) := ov_in (by decide)
theorem hM_4 : (hM h R A L F).2 (R + 4) = some (.inl (0, 80, .inl (A 4))) := ov_in (by decide)
theorem hM_5 : (hM h R A L F).2 (R + 5) = some (.inl (3, 6, .inr (.inl L))) := ov_in (by decide)
theorem hM_6 : (hM h R A L F).2 (R + 6) = some (.inl (0, 96, .inl (A 6))) := ov_in (by decide)
theorem hM_7 : (hM h R A L F).2 (R + 7) = some (.inl (1, 11, .inl (A 7))) := ov_in (by decide)
theorem hM_8 : (hM h R A L F).2 (R + 8) = some (.inl (0, 4, .inl (A 8))) := ov_in (by decide)
theorem hM_9 : (hM h R A L F).2 (R + 9) = some (.inl (0, 96, .inl (A 9))) := ov_in (by decide)
theorem hM_10 : (hM h R A L F).2 (R + 10) = some (.inl (0, 96, .inl (A 10))) := ov_in (by decide)
theorem hM_11 : (hM h R A L F).2 (R + 11) = some (.inl (2, 10, .inl (A 11))) := ov_in (by decide)
theorem hM_12 : (hM h R A L F).2 (R + 12) = some (.inl (0, 96, .inl (A 12))) := ov_in (by decide)
theorem hM_13 : (hM h R A L F).2 (R + 13) = some (.inl (0, 4, .inl (A 13))) := ov_in (by decide)
theorem hM_14 : (hM h R A L F).2 (R + 14) = some (.inl (0, 4, .inl (A 14))) := ov_in (by decide)
theorem hM_15 : (hM h R A L F).2 (R + 15) = some (.inl (0, 4, .inl (A 15))) := ov_in (by decide)
theorem hM_16 : (hM h R A L F).2 (R + 16) = some (.inl (0, 96, .inl (A 16))) := ov_in (by decide)
theorem hM_17 : (hM h R A L F).2 (R + 17) = some (.inl (0, 5, .inl (A 17))) := ov_in (by decide)
theorem hM_18 : (hM h R A L F).2 (R + 18) = some (.inl (0, 5, .inl (A 18))) := ov_in (by decide)
theorem hM_19 : (hM h R A L F).2 (R + 19) = some (.inl (0, 5, .inl (A 19))) := ov_in (by decide)
theorem hM_20 : (hM h R A L F).2 (R + 20) = some (.inl (0, 120, .inl (A 20))) := ov_in (by decide)
theorem hM_21 : (hM h R A L F).2 (R + 21) = some (.inl (0, 24, .inl (A 21))) := ov_in (by decide)
theorem hM_22 : (hM h R A L F).2 (R + 22) = some (.inl (0, 60, .inl (A 22))) := ov_in (by decide)
theorem hM_p1 {f : Nat → Int32} : mh_put (hM h R A L F) (R + 1) (.inl (0, 1452, .inl f)) = hM h R (va_up A 1 f) L F := by
  rw [hM, ov_put (by decide)]
  refine ov_ext fun j _ => ?_
  by_cases e : j = 1
  · subst e
    simp [km, va_up]
  · simp only [e, if_false]
    unfold km
    split <;> simp_all [va_up]
theorem hM_p2 {f : Nat → Int32} : mh_put (hM h R A L F) (R + 2) (.inl (0, 1452, .inl f)) = hM h R (va_up A 2 f) L F := by
  rw [hM, ov_put (by decide)]
  refine ov_ext fun j _ => ?_
  by_cases e : j = 2
  · subst e
    simp [km, va_up]
  · simp only [e, if_false]
    unfold km
    split <;> simp_all [va_up]
theorem hM_p3 {f : Nat → Int32} : mh_put (hM h R A L F) (R + 3) (.inl (0, 1452, .inl f)) = hM h R (va_up A 3 f) L F := by
  rw [hM, ov_put (by decide)]
  refine ov_ext fun j _ => ?_
  by_cases e : j = 3
  · subst e
    simp [km, va_up]
  · simp only [e, if_false]
    unfold km
    split <;> simp_all [va_up]
theorem hM_p4 {f : Nat → Int32} : mh_put (hM h R A L F) (R + 4) (.inl (0, 80, .inl f)) = hM h R (va_up A 4 f) L F := by
  rw [hM, ov_put (by decide)]
  refine ov_ext fun j _ => ?_
  by_cases e : j = 4
  · subst e
    simp [km, va_up]
  · simp only [e, if_false]
    unfold km
    split <;> simp_all [va_up]
theorem hM_p5 {f : Nat → Int64} : mh_put (hM h R A L F) (R + 5) (.inl (3, 6, .inr (.inl f))) = hM h R A f F := by
  rw [hM, ov_put (by decide)]
  refine ov_ext fun j _ => ?_
  by_cases e : j = 5
  · subst e
    simp [km]
  · simp only [e, if_false]
    unfold km
    split <;> simp_all
theorem hM_p6 {f : Nat → Int32} : mh_put (hM h R A L F) (R + 6) (.inl (0, 96, .inl f)) = hM h R (va_up A 6 f) L F := by
  rw [hM, ov_put (by decide)]
  refine ov_ext fun j _ => ?_
  by_cases e : j = 6
  · subst e
    simp [km, va_up]
  · simp only [e, if_false]
    unfold km
    split <;> simp_all [va_up]
theorem hM_p7 {f : Nat → Int32} : mh_put (hM h R A L F) (R + 7) (.inl (1, 11, .inl f)) = hM h R (va_up A 7 f) L F := by
  rw [hM, ov_put (by decide)]
  refine ov_ext fun j _ => ?_
  by_cases e : j = 7
  · subst e
    simp [km, va_up]
  · simp only [e, if_false]
    unfold km
    split <;> simp_all [va_up]
theorem hM_p8 {f : Nat → Int32} : mh_put (hM h R A L F) (R + 8) (.inl (0, 4, .inl f)) = hM h R (va_up A 8 f) L F := by
  rw [hM, ov_put (by decide)]
  refine ov_ext fun j _ => ?_
  by_cases e : j = 8
  · subst e
    simp [km, va_up]
  · simp only [e, if_false]
    unfold km
    split <;> simp_all [va_up]
theorem hM_p9 {f : Nat → Int32} : mh_put (hM h R A L F) (R + 9) (.inl (0, 96, .inl f)) = hM h R (va_up A 9 f) L F := by
  rw [hM, ov_put (by decide)]
  refine ov_ext fun j _ => ?_
  by_cases e : j = 9
  · subst e
    simp [km, va_up]
  · simp only [e, if_false]
    unfold km
    split <;> simp_all [va_up]
theorem hM_p10 {f : Nat → Int32} : mh_put (hM h R A L F) (R + 10) (.inl (0, 96, .inl f)) = hM h R (va_up A 10 f) L F := by
  rw [hM, ov_put (by decide)]
  refine ov_ext fun j _ => ?_
  by_cases e : j = 10
  · subst e
    simp [km, va_up]
  · simp only [e, if_false]
    unfold km
    split <;> simp_all [va_up]
theorem hM_p11 {f : Nat → Int32} : mh_put (hM h R A L F) (R + 11) (.inl (2, 10, .inl f)) = hM h R (va_up A 11 f) L F := by
  rw [hM, ov_put (by decide)]
  refine ov_ext fun j _ => ?_
  by_cases e : j = 11
  · subst e
    simp [km, va_up]
  · simp only [e, if_false]
    unfold km
    split <;> simp_all [va_up]
theorem hM_p12 {f : Nat → Int32} : mh_put (hM h R A L F) (R + 12) (.inl (0, 96, .inl f)) = hM h R (va_up A 12 f) L F := by
  rw [hM, ov_put (by decide)]
  refine ov_ext fun j _ => ?_
  by_cases e : j = 12
  · subst e
    simp [km, va_up]
  · simp only [e, if_false]
    unfold km
    split <;> simp_all [va_up]
theorem hM_p13 {f : Nat → Int32} : mh_put (hM h R A L F) (R + 13) (.inl (0, 4, .inl f)) = hM h R (va_up A 13 f) L F := by
  rw [hM, ov_put (by decide)]
  refine ov_ext fun j _ => ?_
  by_cases e : j = 13
  · subst e
    simp [km, va_up]
  · simp only [e, if_false]
    unfold km
    split <;> simp_all [va_up]
theorem hM_p14 {f : Nat → Int32} : mh_put (hM h R A L F) (R + 14) (.inl (0, 4, .inl f)) = hM h R (va_up A 14 f) L F := by
  rw [hM, ov_put (by decide)]
  refine ov_ext fun j _ => ?_
  by_cases e : j = 14
  · subst e
    simp [km, va_up]
  · simp only [e, if_false]
    unfold km
    split <;> simp_all [va_up]
theorem hM_p15 {f : Nat → Int32} : mh_put (hM h R A L F) (R + 15) (.inl (0, 4, .inl f)) = hM h R (va_up A 15 f) L F := by
  rw [hM, ov_put (by decide)]
  refine ov_ext fun j _ => ?_
  by_cases e : j = 15
  · subst e
    simp [km, va_up]
  · simp only [e, if_false]
    unfold km
    split <;> simp_all [va_up]
theorem hM_p16 {f : Nat → Int32} : mh_put (hM h R A L F) (R + 16) (.inl (0, 96, .inl f)) = hM h R (va_up A 16 f) L F := by
  rw [hM, ov_put (by decide)]
  refine ov_ext fun j _ => ?_
  by_cases e : j = 16
  · subst e
    simp [km, va_up]
  · simp only [e, if_false]
    unfold km
    split <;> simp_all [va_up]
theorem hM_p17 {f : Nat → Int32} : mh_put (hM h R A L F) (R + 17) (.inl (0, 5, .inl f)) = hM h R (va_up A 17 f) L F := by
  rw [hM, ov_put (by decide)]
  refine ov_ext fun j _ => ?_
  by_cases e : j = 17
  · subst e
    simp [km, va_up]
  · simp only [e, if_false]
    unfold km
    split <;> simp_all [va_up]
theorem hM_p18 {f : Nat → Int32} : mh_put (hM h R A L F) (R + 18) (.inl (0, 5, .inl f)) = hM h R (va_up A 18 f) L F := by
  rw [hM, ov_put (by decide)]
  refine ov_ext fun j _ => ?_
  by_cases e : j = 18
  · subst e
    simp [km, va_up]
  · simp only [e, if_false]
    unfold km
    split <;> simp_all [va_up]
theorem hM_p19 {f : Nat → Int32} : mh_put (hM h R A L F) (R + 19) (.inl (0, 5, .inl f)) = hM h R (va_up A 19 f) L F := by
  rw [hM, ov_put (by decide)]
  refine ov_ext fun j _ => ?_
  by_cases e : j = 19
  · subst e
    simp [km, va_up]
  · simp only [e, if_false]
    unfold km
    split <;> simp_all [va_up]
theorem hM_p20 {f : Nat → Int32} : mh_put (hM h R A L F) (R + 20) (.inl (0, 120, .inl f)) = hM h R (va_up A 20 f) L F := by
  rw [hM, ov_put (by decide)]
  refine ov_ext fun j _ => ?_
  by_cases e : j = 20
  · subst e
    simp [km, va_up]
  · simp only [e, if_false]
    unfold km
    split <;> simp_all [va_up]
theorem hM_p21 {f : Nat → Int32} : mh_put (hM h R A L F) (R + 21) (.inl (0, 24, .inl f)) = hM h R (va_up A 21 f) L F := by
  rw [hM, ov_put (by decide)]
  refine ov_ext fun j _ => ?_
  by_cases e : j = 21
  · subst e
    simp [km, va_up]
  · simp only [e, if_false]
    unfold km
    split <;> simp_all [va_up]
theorem hM_p22 {f : Nat → Int32} : mh_put (hM h R A L F) (R + 22) (.inl (0, 60, .inl f)) = hM h R (va_up A 22 f) L F := by
  rw [hM, ov_put (by decide)]
  refine ov_ext fun j _ => ?_
  by_cases e : j = 22
  · subst e
    simp [km, va_up]
  · simp only [e, if_false]
    unfold km
    split <;> simp_all [va_up]
theorem hM_f3 {x : Int32} : mh_put (hM h R A L F) R (.inr (.inl (10, [.ref (R + 1), .ref (R + 2), .ref (R + 3), .int x, .ref (R + 4), .ref (R + 5), .ref (R + 6), .int (F 7), .int (F 8), .int (F 9), .int (F 10), .int (F 11), .int (F 12), .int (F 13), .ref (R + 7), .ref (R + 8), .ref (R + 9), .int (F 17), .int (F 18), .ref (R + 10), .int (F 20), .ref (R + 11), .ref (R + 12), .ref (R + 13), .ref (R + 14), .ref (R + 15), .ref (R + 16), .ref (R + 17), .ref (R + 18), .ref (R + 19), .ref (R + 20), .ref (R + 21), .ref (R + 22), .int (F 33)]))) = hM h R A L (upd F 3 x) := by
  rw [hM, ov_put0 (by decide)]
  refine ov_ext fun i _ => ?_
  by_cases e : i = 0
  · subst e
    simp [km, upd]
  · simp only [e, if_false]
    unfold km
    split <;> simp_all
theorem hM_f7 {x : Int32} : mh_put (hM h R A L F) R (.inr (.inl (10, [.ref (R + 1), .ref (R + 2), .ref (R + 3), .int (F 3), .ref (R + 4), .ref (R + 5), .ref (R + 6), .int x, .int (F 8), .int (F 9), .int (F 10), .int (F 11), .int (F 12), .int (F 13), .ref (R + 7), .ref (R + 8), .ref (R + 9), .int (F 17), .int (F 18), .ref (R + 10), .int (F 20), .ref (R + 11), .ref (R + 12), .ref (R + 13), .ref (R + 14), .ref (R + 15), .ref (R + 16), .ref (R + 17), .ref (R + 18), .ref (R + 19), .ref (R + 20), .ref (R + 21), .ref (R + 22), .int (F 33)]))) = hM h R A L (upd F 7 x) := by
  rw [hM, ov_put0 (by decide)]
  refine ov_ext fun i _ => ?_
  by_cases e : i = 0
  · subst e
    simp [km, upd]
  · simp only [e, if_false]
    unfold km
    split <;> simp_all
theorem hM_f8 {x : Int32} : mh_put (hM h R A L F) R (.inr (.inl (10, [.ref (R + 1), .ref (R + 2), .ref (R + 3), .int (F 3), .ref (R + 4), .ref (R + 5), .ref (R + 6), .int (F 7), .int x, .int (F 9), .int (F 10), .int (F 11), .int (F 12), .int (F 13), .ref (R + 7), .ref (R + 8), .ref (R + 9), .int (F 17), .int (F 18), .ref (R + 10), .int (F 20), .ref (R + 11), .ref (R + 12), .ref (R + 13), .ref (R + 14), .ref (R + 15), .ref (R + 16), .ref (R + 17), .ref (R + 18), .ref (R + 19), .ref (R + 20), .ref (R + 21), .ref (R + 22), .int (F 33)]))) = hM h R A L (upd F 8 x) := by
  rw [hM, ov_put0 (by decide)]
  refine ov_ext fun i _ => ?_
  by_cases e : i = 0
  · subst e
    simp [km, upd]
  · simp only [e, if_false]
    unfold km
    split <;> simp_all
theorem hM_f9 {x : Int32} : mh_put (hM h R A L F) R (.inr (.inl (10, [.ref (R + 1), .ref (R + 2), .ref (R + 3), .int (F 3), .ref (R + 4), .ref (R + 5), .ref (R + 6), .int (F 7), .int (F 8), .int x, .int (F 10), .int (F 11), .int (F 12), .int (F 13), .ref (R + 7), .ref (R + 8), .ref (R + 9), .int (F 17), .int (F 18), .ref (R + 10), .int (F 20), .ref (R + 11), .ref (R + 12), .ref (R + 13), .ref (R + 14), .ref (R + 15), .ref (R + 16), .ref (R + 17), .ref (R + 18), .ref (R + 19), .ref (R + 20), .ref (R + 21), .ref (R + 22), .int (F 33)]))) = hM h R A L (upd F 9 x) := by
  rw [hM, ov_put0 (by decide)]
  refine ov_ext fun i _ => ?_
  by_cases e : i = 0
  · subst e
    simp [km, upd]
  · simp only [e, if_false]
    unfold km
    split <;> simp_all
theorem hM_f10 {x : Int32} : mh_put (hM h R A L F) R (.inr (.inl (10, [.ref (R + 1), .ref (R + 2), .ref (R + 3), .int (F 3), .ref (R + 4), .ref (R + 5), .ref (R + 6), .int (F 7), .int (F 8), .int (F 9), .int x, .int (F 11), .int (F 12), .int (F 13), .ref (R + 7), .ref (R + 8), .ref (R + 9), .int (F 17), .int (F 18), .ref (R + 10), .int (F 20), .ref (R + 11), .ref (R + 12), .ref (R + 13), .ref (R + 14), .ref (R + 15), .ref (R + 16), .ref (R + 17), .ref (R + 18), .ref (R + 19), .ref (R + 20), .ref (R + 21), .ref (R + 22), .int (F 33)]))) = hM h R A L (upd F 10 x) := by
  rw [hM, ov_put0 (by decide)]
  refine ov_ext fun i _ => ?_
  by_cases e : i = 0
  · subst e
    simp [km, upd]
  · simp only [e, if_false]
    unfold km
    split <;> simp_all
theorem hM_f11 {x : Int32} : mh_put (hM h R A L F) R (.inr (.inl (10, [.ref (R + 1), .ref (R + 2), .ref (R + 3), .int (F 3), .ref (R + 4), .ref (R + 5), .ref (R + 6), .int (F 7), .int (F 8), .int (F 9), .int (F 10), .int x, .int (F 12), .int (F 13), .ref (R + 7), .ref (R + 8), .ref (R + 9), .int (F 17), .int (F 18), .ref (R + 10), .int (F 20), .ref (R + 11), .ref (R + 12), .ref (R + 13), .ref (R + 14), .ref (R + 15), .ref (R + 16), .ref (R + 17), .ref (R + 18), .ref (R + 19), .ref (R + 20), .ref (R + 21), .ref (R + 22), .int (F 33)]))) = hM h R A L (upd F 11 x) := by
  rw [hM, ov_put0 (by decide)]
  refine ov_ext fun i _ => ?_
  by_cases e : i = 0
  · subst e
    simp [km, upd]
  · simp only [e, if_false]
    unfold km
    split <;> simp_all
theorem hM_f12 {x : Int32} : mh_put (hM h R A L F) R (.inr (.inl (10, [.ref (R + 1), .ref (R + 2), .ref (R + 3), .int (F 3), .ref (R + 4), .ref (R + 5), .ref (R + 6), .int (F 7), .int (F 8), .int (F 9), .int (F 10), .int (F 11), .int x, .int (F 13), .ref (R + 7), .ref (R + 8), .ref (R + 9), .int (F 17), .int (F 18), .ref (R + 10), .int (F 20), .ref (R + 11), .ref (R + 12), .ref (R + 13), .ref (R + 14), .ref (R + 15), .ref (R + 16), .ref (R + 17), .ref (R + 18), .ref (R + 19), .ref (R + 20), .ref (R + 21), .ref (R + 22), .int (F 33)]))) = hM h R A L (upd F 12 x) := by
  rw [hM, ov_put0 (by decide)]
  refine ov_ext fun i _ => ?_
  by_cases e : i = 0
  · subst e
    simp [km, upd]
  · simp only [e, if_false]
    unfold km
    split <;> simp_all
theorem hM_f13 {x : Int32} : mh_put (hM h R A L F) R (.inr (.inl (10, [.ref (R + 1), .ref (R + 2), .ref (R + 3), .int (F 3), .ref (R + 4), .ref (R + 5), .ref (R + 6), .int (F 7), .int (F 8), .int (F 9), .int (F 10), .int (F 11), .int (F 12), .int x, .ref (R + 7), .ref (R + 8), .ref (R + 9), .int (F 17), .int (F 18), .ref (R + 10), .int (F 20), .ref (R + 11), .ref (R + 12), .ref (R + 13), .ref (R + 14), .ref (R + 15), .ref (R + 16), .ref (R + 17), .ref (R + 18), .ref (R + 19), .ref (R + 20), .ref (R + 21), .ref (R + 22), .int (F 33)]))) = hM h R A L (upd F 13 x) := by
  rw [hM, ov_put0 (by decide)]
  refine ov_ext fun i _ => ?_
  by_cases e : i = 0
  · subst e
    simp [km, upd]
  · simp only [e, if_false]
    unfold km
    split <;> simp_all
theorem hM_f17 {x : Int32} : mh_put (hM h R A L F) R (.inr (.inl (10, [.ref (R + 1), .ref (R + 2), .ref (R + 3), .int (F 3), .ref (R + 4), .ref (R + 5), .ref (R + 6), .int (F 7), .int (F 8), .int (F 9), .int (F 10), .int (F 11), .int (F 12), .int (F 13), .ref (R + 7), .ref (R + 8), .ref (R + 9), .int x, .int (F 18), .ref (R + 10), .int (F 20), .ref (R + 11), .ref (R + 12), .ref (R + 13), .ref (R + 14), .ref (R + 15), .ref (R + 16), .ref (R + 17), .ref (R + 18), .ref (R + 19), .ref (R + 20), .ref (R + 21), .ref (R + 22), .int (F 33)]))) = hM h R A L (upd F 17 x) := by
  rw [hM, ov_put0 (by decide)]
  refine ov_ext fun i _ => ?_
  by_cases e : i = 0
  · subst e
    simp [km, upd]
  · simp only [e, if_false]
    unfold km
    split <;> simp_all
theorem hM_f18 {x : Int32} : mh_put (hM h R A L F) R (.inr (.inl (10, [.ref (R + 1), .ref (R + 2), .ref (R + 3), .int (F 3), .ref (R + 4), .ref (R + 5), .ref (R + 6), .int (F 7), .int (F 8), .int (F 9), .int (F 10), .int (F 11), .int (F 12), .int (F 13), .ref (R + 7), .ref (R + 8), .ref (R + 9), .int (F 17), .int x, .ref (R + 10), .int (F 20), .ref (R + 11), .ref (R + 12), .ref (R + 13), .ref (R + 14), .ref (R + 15), .ref (R + 16), .ref (R + 17), .ref (R + 18), .ref (R + 19), .ref (R + 20), .ref (R + 21), .ref (R + 22), .int (F 33)]))) = hM h R A L (upd F 18 x) := by
  rw [hM, ov_put0 (by decide)]
  refine ov_ext fun i _ => ?_
  by_cases e : i = 0
  · subst e
    simp [km, upd]
  · simp only [e, if_false]
    unfold km
    split <;> simp_all
theorem hM_f20 {x : Int32} : mh_put (hM h R A L F) R (.inr (.inl (10, [.ref (R + 1), .ref (R + 2), .ref (R + 3), .int (F 3), .ref (R + 4), .ref (R + 5), .ref (R + 6), .int (F 7), .int (F 8), .int (F 9), .int (F 10), .int (F 11), .int (F 12), .int (F 13), .ref (R + 7), .ref (R + 8), .ref (R + 9), .int (F 17), .int (F 18), .ref (R + 10), .int x, .ref (R + 11), .ref (R + 12), .ref (R + 13), .ref (R + 14), .ref (R + 15), .ref (R + 16), .ref (R + 17), .ref (R + 18), .ref (R + 19), .ref (R + 20), .ref (R + 21), .ref (R + 22), .int (F 33)]))) = hM h R A L (upd F 20 x) := by
  rw [hM, ov_put0 (by decide)]
  refine ov_ext fun i _ => ?_
  by_cases e : i = 0
  · subst e
    simp [km, upd]
  · simp only [e, if_false]
    unfold km
    split <;> simp_all
theorem hM_f33 {x : Int32} : mh_put (hM h R A L F) R (.inr (.inl (10, [.ref (R + 1), .ref (R + 2), .ref (R + 3), .int (F 3), .ref (R + 4), .ref (R + 5), .ref (R + 6), .int (F 7), .int (F 8), .int (F 9), .int (F 10), .int (F 11), .int (F 12), .int (F 13), .ref (R + 7), .ref (R + 8), .ref (R + 9), .int (F 17), .int (F 18), .ref (R + 10), .int (F 20), .ref (R + 11), .ref (R + 12), .ref (R + 13), .ref (R + 14), .ref (R + 15), .ref (R + 16), .ref (R + 17), .ref (R + 18), .ref (R + 19), .ref (R + 20), .ref (R + 21), .ref (R + 22), .int x]))) = hM h R A L (upd F 33 x) := by
  rw [hM, ov_put0 (by decide)]
  refine ov_ext fun i _ => ?_
  by_cases e : i = 0
  · subst e
    simp [km, upd]
  · simp only [e, if_false]
    unfold km
    split <;> simp_all
end HM
