/-! PART 70: the picture of a StonesToCome: 0 itself, 1 .. 20 now, 21 .. 40 image, 41 .. 60 mind, 61 .. 65 Gathering, 66 .. 68 Tape, 69 its row of Sheets, 70 its row of Slots, 71 waiting, 72 sums, 73 .. 80 the Sheets, 81 .. 100 the Slots -/
def cV (o : Nat) (G : Nat → Nat → Int32) : Nat → Nat → Int32 := fun i => G (o + i)
/-- Gathering: itself, held, crowds, squares, best -/
def kGa (b : Nat) (M : Nat → Nat → Int32) (j : Nat) : Option mh_C := match j with
  | 0 => some (.inr (.inl (1, [.ref (b + 1), .ref (b + 2), .ref (b + 3), .ref (b + 4), .int (M 0 4)])))
  | 1 => some (.inl (0, 256, .inl (M 1)))
  | 2 => some (.inl (0, 4, .inl (M 2)))
  | 3 => some (.inl (0, 6, .inl (M 3)))
  | 4 => some (.inl (0, 6, .inl (M 4)))
  | _ => none
/-- Tape: itself, bytes, steps -/
def kTp (b : Nat) (M : Nat → Nat → Int32) (j : Nat) : Option mh_C := match j with
  | 0 => some (.inr (.inl (7, [.ref (b + 1), .ref (b + 2), .int (M 0 2), .int (M 0 3), .int (M 0 4), .int (M 0 5), .int (M 0 6), .int (M 0 7), .int (M 0 8), .int (M 0 9), .int (M 0 10), .int (M 0 11)])))
  | 1 => some (.inl (0, 96, .inl (M 1)))
  | 2 => some (.inl (0, 96, .inl (M 2)))
  | _ => none
def kA_sh (R : Nat) : Nat → Option Nat := fun j => if j < 4 then some (R + 73 + 2 * j) else none
def kA_sl (R : Nat) : Nat → Option Nat := fun j => if j < 5 then some (R + 81 + 4 * j) else none
def kRw (R : Nat) (f : Nat → Int32) (j : Nat) : Option mh_C := match j with
  | 0 => some (.inl (4, 4, .inr (.inr (.inr (.inr (kA_sh R))))))
  | 1 => some (.inl (5, 5, .inr (.inr (.inr (.inr (kA_sl R))))))
  | 2 => some (.inl (0, 60, .inl f))
  | _ => some (.inl (0, 10, .inl f))
def kS1 (a : Nat) (f : Nat → Int32) (j : Nat) : Option mh_C := match j with
  | 0 => some (kSh a (f 1) (f 2))
  | _ => some (.inl (0, 24, .inl f))
def kL1 (a : Nat) (f : Nat → Int32) (j : Nat) : Option mh_C := match j with
  | 0 => some (.inr (.inl (5, [.ref (a + 1), .ref (a + 2), .int (f 2), .int (f 3)])))
  | 1 => some (k_St f)
  | 2 => some (kSh a (f 1) (f 2))
  | _ => some (.inl (0, 24, .inl f))
def kA (R : Nat) (G : Nat → Nat → Int32) (Y : Nat → Nat → Option Nat) (i : Nat) : Option mh_C :=
  if i < 1 then some (.inr (.inl (9, [.ref (R + 1), .ref (R + 21), .ref (R + 41), .ref (R + 61), .ref (R + 66), .ref (R + 69), .ref (R + 70), .ref (R + 71), .ref (R + 72), .int (G i 9), .int (G i 10)])))
  else if i < 21 then kC (R + 1) (cV 1 G) (Y 0) (i - 1)
  else if i < 41 then kC (R + 21) (cV 21 G) (Y 1) (i - 21)
  else if i < 61 then kC (R + 41) (cV 41 G) (Y 2) (i - 41)
  else if i < 66 then kGa (R + 61) (cV 61 G) (i - 61)
  else if i < 69 then kTp (R + 66) (cV 66 G) (i - 66)
  else if i < 73 then kRw R (G i) (i - 69)
  else if i < 81 then kS1 (R + i) (G i) ((i - 73) % 2)
  else kL1 (R + i) (G i) ((i - 81) % 4)
def hA (h : mh_H) (R : Nat) (G : Nat → Nat → Int32) (Y : Nat → Nat → Option Nat) : mh_H := ov h R 101 (kA R G Y)
/-- part of a row of rows -/
def cG (o n : Nat) (V : Nat → Nat → Int32) (G : Nat → Nat → Int32) : Nat → Nat → Int32 := fun i => if o ≤ i ∧ i < o + n then V (i - o) else G i
theorem kC_congr {b i : Nat} {V V' : Nat → Nat → Int32} {X : Nat → Option Nat} (h : V' i = V i) : kC b V' X i = kC b V X i := by
  unfold kC
  split <;> simp_all
theorem kGa_congr {b i : Nat} {V V' : Nat → Nat → Int32} (h : V' i = V i) : kGa b V' i = kGa b V i := by
  unfold kGa
  split <;> simp_all
theorem kTp_congr {b i : Nat} {V V' : Nat → Nat → Int32} (h : V' i = V i) : kTp b V' i = kTp b V i := by
  unfold kTp
  split <;> simp_all
section HA
variable {h h1 : mh_H} {R i : Nat} {G G' : Nat → Nat → Int32} {Y Y' : Nat → Nat → Option Nat} {V : Nat → Nat → Int32} {X : Nat → Option Nat} {f : Nat → Int32}
theorem kA_0 : kA R G Y 0 = some (.inr (.inl (9, [.ref (R + 1), .ref (R + 21), .ref (R + 41), .ref (R + 61), .ref (R + 66), .ref (R + 69), .ref (R + 70), .ref (R + 71), .ref (R + 72), .int (G 0 9), .int (G 0 10)]))) := rfl
theorem kA_n (h : i < 20) : kA R G Y (1 + i) = kC (R + 1) (cV 1 G) (Y 0) i := by
  unfold kA
  rw [if_neg (by omega), if_pos (by omega), show 1 + i - 1 = i by omega]
theorem kA_i (h : i < 20) : kA R G Y (21 + i) = kC (R + 21) (cV 21 G) (Y 1) i := by
  unfold kA
  rw [if_neg (by omega), if_neg (by omega), if_pos (by omega), show 21 + i - 21 = i by omega]
theorem kA_m (h : i < 20) : kA R G Y (41 + i) = kC (R + 41) (cV 41 G) (Y 2) i := by
  unfold kA
  rw [if_neg (by omega), if_neg (by omega), if_neg (by omega), if_pos (by omega), show 41 + i - 41 = i by omega]
theorem kA_g (h : i < 5) : kA R G Y (61 + i) = kGa (R + 61) (cV 61 G) i := by
  unfold kA
  rw [if_neg (by omega), if_neg (by omega), if_neg (by omega), if_neg (by omega), if_pos (by omega), show 61 + i - 61 = i by omega]
theorem kA_t (h : i < 3) : kA R G Y (66 + i) = kTp (R + 66) (cV 66 G) i := by
  unfold kA
  rw [if_neg (by omega), if_neg (by omega), if_neg (by omega), if_neg (by omega), if_neg (by omega), if_pos (by omega), show 66 + i - 66 = i by omega]
theorem kA_r (h : i < 4) : kA R G Y (69 + i) = kRw R (G (69 + i)) i := by
  unfold kA
  rw [if_neg (by omega), if_neg (by omega), if_neg (by omega), if_neg (by omega), if_neg (by omega), if_neg (by omega), if_pos (by omega), show 69 + i - 69 = i by omega]
theorem kA_s (h : i < 8) : kA R G Y (73 + i) = kS1 (R + (73 + i)) (G (73 + i)) (i % 2) := by
  unfold kA
  rw [if_neg (by omega), if_neg (by omega), if_neg (by omega), if_neg (by omega), if_neg (by omega), if_neg (by omega), if_neg (by omega), if_pos (by omega), show 73 + i - 73 = i by omega]
theorem kA_l : kA R G Y (81 + i) = kL1 (R + (81 + i)) (G (81 + i)) (i % 4) := by
  unfold kA
  rw [if_neg (by omega), if_neg (by omega), if_neg (by omega), if_neg (by omega), if_neg (by omega), if_neg (by omega), if_neg (by omega), if_neg (by omega), show 81 + i - 81 = i by omega]
theorem kA_congr (hg : G' i = G i) (hy : i < 1 ∨ 21 ≤ i ∨ Y' 0 = Y 0) (hy1 : i < 21 ∨ 41 ≤ i ∨ Y' 1 = Y 1) (hy2 : i < 41 ∨ 61 ≤ i ∨ Y' 2 = Y 2) : kA R G' Y' i = kA R G Y i := by
  rcases (show i = 0 ∨ (∃ j, j < 20 ∧ i = 1 + j) ∨ (∃ j, j < 20 ∧ i = 21 + j) ∨ (∃ j, j < 20 ∧ i = 41 + j) ∨ (∃ j, j < 5 ∧ i = 61 + j) ∨ (∃ j, j < 3 ∧ i = 66 + j) ∨ (∃ j, j < 4 ∧ i = 69 + j) ∨ (∃ j, j < 8 ∧ i = 73 + j) ∨ (∃ j, i = 81 + j) from by
    rcases Nat.lt_or_ge i 1 with q | q
    · exact Or.inl (by omega)
    rcases Nat.lt_or_ge i 21 with q1 | q1
    · exact Or.inr (Or.inl ⟨i - 1, by omega, by omega⟩)
    rcases Nat.lt_or_ge i 41 with q2 | q2
    · exact Or.inr (Or.inr (Or.inl ⟨i - 21, by omega, by omega⟩))
    rcases Nat.lt_or_ge i 61 with q3 | q3
    · exact Or.inr (Or.inr (Or.inr (Or.inl ⟨i - 41, by omega, by omega⟩)))
    rcases Nat.lt_or_ge i 66 with q4 | q4
    · exact Or.inr (Or.inr (Or.inr (Or.inr (Or.inl ⟨i - 61, by omega, by omega⟩))))
    rcases Nat.lt_or_ge i 69 with q5 | q5
    · exact Or.inr (Or.inr (Or.inr (Or.inr (Or.inr (Or.inl ⟨i - 66, by omega, by omega⟩)))))
    rcases Nat.lt_or_ge i 73 with q6 | q6
    · exact Or.inr (Or.inr (Or.inr (Or.inr (Or.inr (Or.inr (Or.inl ⟨i - 69, by omega, by omega⟩))))))
    rcases Nat.lt_or_ge i 81 with q7 | q7
    · exact Or.inr (Or.inr (Or.inr (Or.inr (Or.inr (Or.inr (Or.inr (Or.inl ⟨i - 73, by omega, by omega⟩)))))))
    · exact Or.inr (Or.inr (Or.inr (Or.inr (Or.inr (Or.inr (Or.inr (Or.inr ⟨i - 81, by omega⟩)))))))) with rfl | ⟨j, hj, rfl⟩ | ⟨j, hj, rfl⟩ | ⟨j, hj, rfl⟩ | ⟨j, hj, rfl⟩ | ⟨j, hj, rfl⟩ | ⟨j, hj, rfl⟩ | ⟨j, hj, rfl⟩ | ⟨j, rfl⟩
  · rw [kA_0, kA_0, hg]
  · rw [kA_n hj, kA_n hj, (hy.resolve_left (by omega)).resolve_left (by omega), kC_congr (V := cV 1 G) hg]
  · rw [kA_i hj, kA_i hj, (hy1.resolve_left (by omega)).resolve_left (by omega), kC_congr (V := cV 21 G) hg]
  · rw [kA_m hj, kA_m hj, (hy2.resolve_left (by omega)).resolve_left (by omega), kC_congr (V := cV 41 G) hg]
  · rw [kA_g hj, kA_g hj, kGa_congr (V := cV 61 G) hg]
  · rw [kA_t hj, kA_t hj, kTp_congr (V := cV 66 G) hg]
  · rw [kA_r hj, kA_r hj, hg]
  · rw [kA_s hj, kA_s hj, hg]
  · rw [kA_l, kA_l, hg]
theorem hA_in (hi : i < 101) : (hA h R G Y).2 (R + i) = kA R G Y i := ov_in hi
theorem hA_out {q : Nat} (hq : q < R ∨ R + 101 ≤ q) : (hA h R G Y).2 q = h.2 q := ov_out (by omega)
/-- a cell is written -/
theorem hA_put {c : mh_C} (hi : i < 101) (hc : kA R (va_up G i f) Y i = some c) : mh_put (hA h R G Y) (R + i) c = hA h R (va_up G i f) Y := by
  rw [hA, ov_put hi]
  refine ov_ext fun j hj => ?_
  by_cases e : j = i
  · subst e; rw [if_pos rfl, hc]
  · rw [if_neg e]
    exact (kA_congr (va_up_ne _ _ e) (Or.inr (Or.inr rfl)) (Or.inr (Or.inr rfl)) (Or.inr (Or.inr rfl))).symm
/-- a block that stands there already -/
theorem ov_id {b n : Nat} {blk : Nat → Option mh_C} (hb : ∀ i, i < n → h.2 (b + i) = blk i) : ov h b n blk = h := by
  refine Prod.ext rfl (funext fun q => ?_)
  by_cases hq : b ≤ q ∧ q < b + n
  · simp only [ov, hq, and_self, if_true]
    rw [← hb _ (by omega), show b + (q - b) = q by omega]
  · simp only [ov, hq, if_false]
theorem ov_comm {b n c k : Nat} {B C : Nat → Option mh_C} (hd : b + n ≤ c ∨ c + k ≤ b) : ov (ov h b n B) c k C = ov (ov h c k C) b n B := by
  refine Prod.ext rfl (funext fun q => ?_)
  by_cases h1 : b ≤ q ∧ q < b + n
  · have h2 : ¬ (c ≤ q ∧ q < c + k) := by omega
    simp only [ov, h1, h2, and_self, if_true, if_false]
  · simp only [ov, h1, if_false]
/-- a block over part of another one -/
theorem ov_sub {n o k : Nat} {B C B' : Nat → Option mh_C} (ho : o + k ≤ n) (h1 : ∀ i, i < k → B' (o + i) = C i) (h2 : ∀ i, i < n → ¬ (o ≤ i ∧ i < o + k) → B' i = B i) : ov (ov h R n B) (R + o) k C = ov h R n B' := by
  refine Prod.ext rfl (funext fun q => ?_)
  by_cases e1 : R + o ≤ q ∧ q < R + o + k
  · have e2 : R ≤ q ∧ q < R + n := by omega
    simp only [ov, e1, e2, and_self, if_true]
    rw [← h1 _ (by omega)]
    congr 1
    omega
  · by_cases e2 : R ≤ q ∧ q < R + n
    · simp only [ov, e1, e2, and_self, if_true, if_false]
      rw [h2 _ (by omega) (by omega)]
    · simp only [ov, e1, e2, if_false]
theorem hA_now : hC (hA h R G Y) (R + 1) (cV 1 G) (Y 0) = hA h R G Y := ov_id fun i hi => by rw [Nat.add_assoc, hA_in (by omega), kA_n hi]
theorem hA_img : hC (hA h R G Y) (R + 21) (cV 21 G) (Y 1) = hA h R G Y := ov_id fun i hi => by rw [Nat.add_assoc, hA_in (by omega), kA_i hi]
theorem hA_mnd : hC (hA h R G Y) (R + 41) (cV 41 G) (Y 2) = hA h R G Y := ov_id fun i hi => by rw [Nat.add_assoc, hA_in (by omega), kA_m hi]
theorem cG_in {o n j : Nat} {V : Nat → Nat → Int32} (hj : j < n) : cG o n V G (o + j) = V j := by
  unfold cG
  rw [if_pos (by omega), show o + j - o = j by omega]
theorem cG_out {o n j : Nat} {V : Nat → Nat → Int32} (hj : ¬ (o ≤ j ∧ j < o + n)) : cG o n V G j = G j := by
  unfold cG
  rw [if_neg hj]
theorem hA_nowP : hC (hA h R G Y) (R + 1) V X = hA h R (cG 1 20 V G) (va_up Y 0 X) := by
  refine ov_sub (by decide) (fun i hi => ?_) (fun i hi hn => ?_)
  · rw [kA_n hi, va_up_self]
    exact kC_congr (cG_in hi)
  · exact kA_congr (cG_out hn) (by omega) (Or.inr (Or.inr (va_up_ne _ _ (by decide)))) (Or.inr (Or.inr (va_up_ne _ _ (by decide))))
theorem hA_imgP : hC (hA h R G Y) (R + 21) V X = hA h R (cG 21 20 V G) (va_up Y 1 X) := by
  refine ov_sub (by decide) (fun i hi => ?_) (fun i hi hn => ?_)
  · rw [kA_i hi, va_up_self]
    exact kC_congr (cG_in hi)
  · exact kA_congr (cG_out hn) (Or.inr (Or.inr (va_up_ne _ _ (by decide)))) (by omega) (Or.inr (Or.inr (va_up_ne _ _ (by decide))))
theorem hA_mndP : hC (hA h R G Y) (R + 41) V X = hA h R (cG 41 20 V G) (va_up Y 2 X) := by
  refine ov_sub (by decide) (fun i hi => ?_) (fun i hi hn => ?_)
  · rw [kA_m hi, va_up_self]
    exact kC_congr (cG_in hi)
  · exact kA_congr (cG_out hn) (Or.inr (Or.inr (va_up_ne _ _ (by decide)))) (Or.inr (Or.inr (va_up_ne _ _ (by decide)))) (by omega)
/-- a heap that is the same below a place: the block stands there too -/
theorem hA_self {lo : Nat} (hx : eX lo (hA h R G Y) h1) (hlo : R + 101 ≤ lo) : hA h1 R G Y = h1 := ov_id fun i hi => by rw [hx.2 _ (by omega), hA_in hi]
theorem hM_self {lo : Nat} {A : Nat → Nat → Int32} {L : Nat → Int64} {F : Nat → Int32} (hx : eX lo (hM h R A L F) h1) (hlo : R + 23 ≤ lo) : hM h1 R A L F = h1 := ov_id fun i hi => by rw [hx.2 _ (by omega), hM, ov_in hi]
theorem hA_hM {A : Nat → Nat → Int32} {L : Nat → Int64} {F : Nat → Int32} : hA (hM h (R + 101) A L F) R G Y = hM (hA h R G Y) (R + 101) A L F := ov_comm (by omega)
theorem eX_hA {lo : Nat} (hx : eX lo h h1) : eX lo (hA h R G Y) (hA h1 R G Y) := ⟨hx.1, fun q hq => by
    by_cases e : R ≤ q ∧ q < R + 101
    · simp only [hA, ov, e, and_self, if_true]
    · simp only [hA, ov, e, if_false]; exact hx.2 q hq⟩
/-- what the Cities' methods leave: the base may have changed above lo -/
theorem hA_rep {lo : Nat} (hx : eX lo (hA h R G Y) h1) (hlo : R + 101 ≤ lo) : h1 = hA h1 R G Y := (hA_self hx hlo).symm
theorem ov_ov {b n : Nat} {B C : Nat → Option mh_C} : ov (ov h b n B) b n C = ov h b n C := by
  refine Prod.ext rfl (funext fun q => ?_)
  by_cases hq : b ≤ q ∧ q < b + n
  · simp only [ov, hq, and_self, if_true]
  · simp only [ov, hq, if_false]
theorem hA_hA : hA (hA h R G Y) R G' Y' = hA h R G' Y' := ov_ov
theorem hM_hM {A A' : Nat → Nat → Int32} {L L' : Nat → Int64} {F F' : Nat → Int32} : hM (hM h R A L F) R A' L' F' = hM h R A' L' F' := ov_ov
/-! reading -/
theorem hA_0 : (hA h R G Y).2 R = some (.inr (.inl (9, [.ref (R + 1), .ref (R + 21), .ref (R + 41), .ref (R + 61), .ref (R + 66), .ref (R + 69), .ref (R + 70), .ref (R + 71), .ref (R + 72), .int (G 0 9), .int (G 0 10)]))) := hA_in (i := 0) (by decide)
theorem hA_n0 : (hA h R G Y).2 (R + 1) = some (.inr (.inl (0, [.ref (R + 1 + 1), .ref (R + 1 + 6), .ref (R + 1 + 7), .int (G 1 3), .int (G 1 4), .int (G 1 5), .int (G 1 6), .int (G 1 7), .int (G 1 8), .int (G 1 9)]))) := hA_in (i := 1) (by decide)
theorem hA_n1 : (hA h R G Y).2 (R + 1 + 1) = some (.inr (.inl (3, [.ref (R + 1 + 2), .ref (R + 1 + 3), .ref (R + 1 + 4), .ref (R + 1 + 5)]))) := hA_in (i := 2) (by decide)
theorem hA_n6 : (hA h R G Y).2 (R + 1 + 6) = some (.inl (6, 10, .inr (.inr (.inr (.inr (kC_st (R + 1))))))) := hA_in (i := 7) (by decide)
theorem hA_n7 : (hA h R G Y).2 (R + 1 + 7) = some (.inr (.inl (2, [.ref (R + 1 + 8), .ref (R + 1 + 9), .int (G 8 2)]))) := hA_in (i := 8) (by decide)
theorem hA_ns (hi : i < 10) : (hA h R G Y).2 (R + 1 + 10 + i) = some (.inr (.inl (6, [.int (G (11 + i) 0), .int (G (11 + i) 1), .int (G (11 + i) 2), .int (G (11 + i) 3), .int (G (11 + i) 4), .int (G (11 + i) 5)]))) := by
  have := hC_S (h := hA h R G Y) (b := R + 1) (V := cV 1 G) (X := Y 0) hi
  rw [hA_now, cV, show 1 + (10 + i) = 11 + i by omega] at this
  exact this
theorem hA_i0 : (hA h R G Y).2 (R + 21) = some (.inr (.inl (0, [.ref (R + 21 + 1), .ref (R + 21 + 6), .ref (R + 21 + 7), .int (G 21 3), .int (G 21 4), .int (G 21 5), .int (G 21 6), .int (G 21 7), .int (G 21 8), .int (G 21 9)]))) := hA_in (i := 21) (by decide)
theorem hA_m0 : (hA h R G Y).2 (R + 41) = some (.inr (.inl (0, [.ref (R + 41 + 1), .ref (R + 41 + 6), .ref (R + 41 + 7), .int (G 41 3), .int (G 41 4), .int (G 41 5), .int (G 41 6), .int (G 41 7), .int (G 41 8), .int (G 41 9)]))) := hA_in (i := 41) (by decide)
theorem hA_m1 : (hA h R G Y).2 (R + 41 + 1) = some (.inr (.inl (3, [.ref (R + 41 + 2), .ref (R + 41 + 3), .ref (R + 41 + 4), .ref (R + 41 + 5)]))) := hA_in (i := 42) (by decide)
theorem hA_m6 : (hA h R G Y).2 (R + 41 + 6) = some (.inl (6, 10, .inr (.inr (.inr (.inr (kC_st (R + 41))))))) := hA_in (i := 47) (by decide)
theorem hA_ms (hi : i < 10) : (hA h R G Y).2 (R + 41 + 10 + i) = some (.inr (.inl (6, [.int (G (51 + i) 0), .int (G (51 + i) 1), .int (G (51 + i) 2), .int (G (51 + i) 3), .int (G (51 + i) 4), .int (G (51 + i) 5)]))) := by
  have := hC_S (h := hA h R G Y) (b := R + 41) (V := cV 41 G) (X := Y 2) hi
  rw [hA_mnd, cV, show 41 + (10 + i) = 51 + i by omega] at this
  exact this
theorem hA_g0 : (hA h R G Y).2 (R + 61) = some (.inr (.inl (1, [.ref (R + 61 + 1), .ref (R + 61 + 2), .ref (R + 61 + 3), .ref (R + 61 + 4), .int (G 61 4)]))) := hA_in (i := 61) (by decide)
theorem hA_t0 : (hA h R G Y).2 (R + 66) = some (.inr (.inl (7, [.ref (R + 66 + 1), .ref (R + 66 + 2), .int (G 66 2), .int (G 66 3), .int (G 66 4), .int (G 66 5), .int (G 66 6), .int (G 66 7), .int (G 66 8), .int (G 66 9), .int (G 66 10), .int (G 66 11)]))) := hA_in (i := 66) (by decide)
theorem hA_69 : (hA h R G Y).2 (R + 69) = some (.inl (4, 4, .inr (.inr (.inr (.inr (kA_sh R)))))) := hA_in (i := 69) (by decide)
theorem hA_70 : (hA h R G Y).2 (R + 70) = some (.inl (5, 5, .inr (.inr (.inr (.inr (kA_sl R)))))) := hA_in (i := 70) (by decide)
theorem hA_71 : (hA h R G Y).2 (R + 71) = some (.inl (0, 60, .inl (G 71))) := hA_in (i := 71) (by decide)
theorem hA_72 : (hA h R G Y).2 (R + 72) = some (.inl (0, 10, .inl (G 72))) := hA_in (i := 72) (by decide)
theorem hA_shr (hi : i < 4) : va_rf (kA_sh R i) = .ref (R + 73 + 2 * i) := by
  unfold kA_sh
  rw [if_pos hi]
  rfl
theorem hA_slr (hi : i < 5) : va_rf (kA_sl R i) = .ref (R + 81 + 4 * i) := by
  unfold kA_sl
  rw [if_pos hi]
  rfl
theorem hA_sh (hi : i < 4) : (hA h R G Y).2 (R + 73 + 2 * i) = some (kSh (R + 73 + 2 * i) (G (73 + 2 * i) 1) (G (73 + 2 * i) 2)) := by
  rw [Nat.add_assoc, hA_in (by omega), kA_s (by omega), show 2 * i % 2 = 0 by omega]
  rfl
theorem hA_sp (hi : i < 4) : (hA h R G Y).2 (R + 73 + 2 * i + 1) = some (.inl (0, 24, .inl (G (74 + 2 * i)))) := by
  rw [show R + 73 + 2 * i + 1 = R + (73 + (2 * i + 1)) by omega, hA_in (by omega), kA_s (by omega), show (2 * i + 1) % 2 = 1 by omega, show 73 + (2 * i + 1) = 74 + 2 * i by omega]
  rfl
theorem hA_sl (hi : i < 5) : (hA h R G Y).2 (R + 81 + 4 * i) = some (.inr (.inl (5, [.ref (R + 81 + 4 * i + 1), .ref (R + 81 + 4 * i + 2), .int (G (81 + 4 * i) 2), .int (G (81 + 4 * i) 3)]))) := by
  rw [Nat.add_assoc, hA_in (by omega), kA_l, show 4 * i % 4 = 0 by omega]
  rfl
theorem hA_sl1 (hi : i < 5) : (hA h R G Y).2 (R + 81 + 4 * i + 1) = some (k_St (G (82 + 4 * i))) := by
  rw [show R + 81 + 4 * i + 1 = R + (81 + (4 * i + 1)) by omega, hA_in (by omega), kA_l, show (4 * i + 1) % 4 = 1 by omega, show 81 + (4 * i + 1) = 82 + 4 * i by omega]
  rfl
theorem hA_sl2 (hi : i < 5) : (hA h R G Y).2 (R + 81 + 4 * i + 2) = some (kSh (R + 81 + 4 * i + 2) (G (83 + 4 * i) 1) (G (83 + 4 * i) 2)) := by
  rw [show R + 81 + 4 * i + 2 = R + (81 + (4 * i + 2)) by omega, hA_in (by omega), kA_l, show (4 * i + 2) % 4 = 2 by omega, show 81 + (4 * i + 2) = 83 + 4 * i by omega]
  rfl
theorem hA_sl3 (hi : i < 5) : (hA h R G Y).2 (R + 81 + 4 * i + 2 + 1) = some (.inl (0, 24, .inl (G (84 + 4 * i)))) := by
  rw [show R + 81 + 4 * i + 2 + 1 = R + (81 + (4 * i + 3)) by omega, hA_in (by omega), kA_l, show (4 * i + 3) % 4 = 3 by omega, show 81 + (4 * i + 3) = 84 + 4 * i by omega]
  rfl
/-! writing -/
def g2 (a9 a10 : Int32) : Nat → Int32 := fun j => if j = 9 then a9 else a10
theorem g2_9 {a9 a10 : Int32} : g2 a9 a10 9 = a9 := rfl
theorem g2_10 {a9 a10 : Int32} : g2 a9 a10 10 = a10 := rfl
theorem hA_p0 {a9 a10 : Int32} : mh_put (hA h R G Y) R (.inr (.inl (9, [.ref (R + 1), .ref (R + 21), .ref (R + 41), .ref (R + 61), .ref (R + 66), .ref (R + 69), .ref (R + 70), .ref (R + 71), .ref (R + 72), .int a9, .int a10]))) = hA h R (va_up G 0 (g2 a9 a10)) Y := hA_put (i := 0) (by decide) rfl
theorem hA_pn {a3 a4 a5 a6 a7 a8 a9 : Int32} : mh_put (hA h R G Y) (R + 1) (.inr (.inl (0, [.ref (R + 1 + 1), .ref (R + 1 + 6), .ref (R + 1 + 7), .int a3, .int a4, .int a5, .int a6, .int a7, .int a8, .int a9]))) = hA h R (va_up G 1 (g10 a3 a4 a5 a6 a7 a8 a9)) Y := hA_put (i := 1) (by decide) rfl
theorem hA_pm {a3 a4 a5 a6 a7 a8 a9 : Int32} : mh_put (hA h R G Y) (R + 41) (.inr (.inl (0, [.ref (R + 41 + 1), .ref (R + 41 + 6), .ref (R + 41 + 7), .int a3, .int a4, .int a5, .int a6, .int a7, .int a8, .int a9]))) = hA h R (va_up G 41 (g10 a3 a4 a5 a6 a7 a8 a9)) Y := hA_put (i := 41) (by decide) rfl
theorem hA_pns {a0 a1 a2 a3 a4 a5 : Int32} (hi : i < 10) : mh_put (hA h R G Y) (R + 1 + 10 + i) (.inr (.inl (6, [.int a0, .int a1, .int a2, .int a3, .int a4, .int a5]))) = hA h R (va_up G (11 + i) (g6 a0 a1 a2 a3 a4 a5)) Y := by
  rw [show R + 1 + 10 + i = R + (11 + i) by omega]
  refine hA_put (by omega) ?_
  rw [show 11 + i = 1 + (10 + i) by omega, kA_n (by omega), kC_s hi, cV, va_up_self]
  rfl
theorem hA_pms {a0 a1 a2 a3 a4 a5 : Int32} (hi : i < 10) : mh_put (hA h R G Y) (R + 41 + 10 + i) (.inr (.inl (6, [.int a0, .int a1, .int a2, .int a3, .int a4, .int a5]))) = hA h R (va_up G (51 + i) (g6 a0 a1 a2 a3 a4 a5)) Y := by
  rw [show R + 41 + 10 + i = R + (51 + i) by omega]
  refine hA_put (by omega) ?_
  rw [show 51 + i = 41 + (10 + i) by omega, kA_m (by omega), kC_s hi, cV, va_up_self]
  rfl
theorem hA_p71 : mh_put (hA h R G Y) (R + 71) (.inl (0, 60, .inl f)) = hA h R (va_up G 71 f) Y := hA_put (i := 71) (by decide) rfl
theorem hA_p72 : mh_put (hA h R G Y) (R + 72) (.inl (0, 10, .inl f)) = hA h R (va_up G 72 f) Y := hA_put (i := 72) (by decide) rfl
theorem hA_psh {a1 a2 : Int32} (hi : i < 4) : mh_put (hA h R G Y) (R + 73 + 2 * i) (kSh (R + 73 + 2 * i) a1 a2) = hA h R (va_up G (73 + 2 * i) (fun j => if j = 1 then a1 else a2)) Y := by
  rw [Nat.add_assoc]
  refine hA_put (by omega) ?_
  rw [kA_s (by omega), show 2 * i % 2 = 0 by omega, va_up_self]
  rfl
theorem hA_psp (hi : i < 4) : mh_put (hA h R G Y) (R + 73 + 2 * i + 1) (.inl (0, 24, .inl f)) = hA h R (va_up G (74 + 2 * i) f) Y := by
  rw [show R + 73 + 2 * i + 1 = R + (74 + 2 * i) by omega]
  refine hA_put (by omega) ?_
  rw [show 74 + 2 * i = 73 + (2 * i + 1) by omega, kA_s (by omega), show (2 * i + 1) % 2 = 1 by omega, va_up_self]
  rfl
theorem hA_psl {a2 a3 : Int32} (hi : i < 5) : mh_put (hA h R G Y) (R + 81 + 4 * i) (.inr (.inl (5, [.ref (R + 81 + 4 * i + 1), .ref (R + 81 + 4 * i + 2), .int a2, .int a3]))) = hA h R (va_up G (81 + 4 * i) (fun j => if j = 2 then a2 else a3)) Y := by
  rw [Nat.add_assoc]
  refine hA_put (by omega) ?_
  rw [kA_l, show 4 * i % 4 = 0 by omega, va_up_self]
  rfl
theorem hA_psl1 (hi : i < 5) : mh_put (hA h R G Y) (R + 81 + 4 * i + 1) (k_St f) = hA h R (va_up G (82 + 4 * i) f) Y := by
  rw [show R + 81 + 4 * i + 1 = R + (82 + 4 * i) by omega]
  refine hA_put (by omega) ?_
  rw [show 82 + 4 * i = 81 + (4 * i + 1) by omega, kA_l, show (4 * i + 1) % 4 = 1 by omega, va_up_self]
  rfl
theorem hA_psl2 {a1 a2 : Int32} (hi : i < 5) : mh_put (hA h R G Y) (R + 81 + 4 * i + 2) (kSh (R + 81 + 4 * i + 2) a1 a2) = hA h R (va_up G (83 + 4 * i) (fun j => if j = 1 then a1 else a2)) Y := by
  rw [show R + 81 + 4 * i + 2 = R + (81 + (4 * i + 2)) by omega, show 83 + 4 * i = 81 + (4 * i + 2) by omega]
  refine hA_put (by omega) ?_
  rw [kA_l, show (4 * i + 2) % 4 = 2 by omega, va_up_self]
  rfl
theorem hA_psl3 (hi : i < 5) : mh_put (hA h R G Y) (R + 81 + 4 * i + 2 + 1) (.inl (0, 24, .inl f)) = hA h R (va_up G (84 + 4 * i) f) Y := by
  rw [show R + 81 + 4 * i + 2 + 1 = R + (84 + 4 * i) by omega]
  refine hA_put (by omega) ?_
  rw [show 84 + 4 * i = 81 + (4 * i + 3) by omega, kA_l, show (4 * i + 3) % 4 = 3 by omega, va_up_self]
  rfl
end HA
