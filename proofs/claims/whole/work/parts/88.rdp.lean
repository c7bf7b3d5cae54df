/-! PART 88: reading down level by level, and the model's way through an E: they come to the same -/
abbrev rR : Type := Nat × Option (List Int32 × Nat)
/-- further operands of a level, at most j: the place of the token behind, the code, how many leaves; none: a FAULT at that token -/
def lpR (tt : Nat → Nat) (sg : Nat → Int32) (r : Int32) (one : Nat → List Int32 → Nat → rR) : Nat → Nat → List Int32 → Nat → rR
  | 0, k, C, a => (k, some (C, a))
  | j + 1, k, C, a => if tt k = 6 ∧ rkI (sg k) = r then (match one (k + 1) C a with
      | (k', none) => (k', none)
      | (k', some (C', a')) => lpR tt sg r one j k' (C' ++ [sg k]) a') else (k, some (C, a))
/-- a level: 0 a PIECE, 5 an E -/
def lvR (tt : Nat → Nat) (sg : Nat → Int32) (pce : Nat → List Int32 → Nat → rR) : Nat → Nat → List Int32 → Nat → rR
  | 0, k, C, a => pce k C a
  | d + 1, k, C, a => match lvR tt sg pce d k C a with
    | (k', none) => (k', none)
    | (k', some (C', a')) => lpR tt sg (nI (5 - d)) (fun k C a => lvR tt sg pce d k C a) (if d = 2 then 1 else 96) k' C' a'
/-- a PIECE, with so many brackets and nots around it -/
def pcR (tt : Nat → Nat) (pc sg : Nat → Int32) : Nat → Nat → Nat → Nat → List Int32 → Nat → rR
  | 0, _, _, k, _, _ => (k, none)
  | f + 1, nb, nn, k, C, a =>
    if tt k = 1 then (k + 1, some (C ++ [pc k], a + 1))
    else if tt k = 3 then (if nn < 8 then (match pcR tt pc sg f nb (nn + 1) (k + 1) C a with
      | (k', none) => (k', none)
      | (k', some (C', a')) => (k', some (C' ++ [-10], a'))) else (k, none))
    else if tt k = 4 then (if nb < 8 then (match lvR tt sg (fun k C a => pcR tt pc sg f (nb + 1) nn k C a) 5 (k + 1) C a with
      | (k', none) => (k', none)
      | (k', some (C', a')) => if tt k' = 5 then (k' + 1, some (C', a')) else (k', none)) else (k, none))
    else (k, none)
/-- nothing that waits there is settled by a rank -/
def stb (r : Int32) : List Int32 → Prop
  | [] => True
  | x :: _ => x = -11 ∨ rkI x < r
theorem stb.s {r : Int32} {H : List Int32} (h : stb r H) (C : List Int32) : setl r H C = (H, C) := by
  cases H with
  | nil => rfl
  | cons x H => rw [setl, if_pos (show x = -11 ∨ rkI x < r from h)]
theorem stb.mono {r r' : Int32} {H : List Int32} (h : stb r H) (hr : r ≤ r') : stb r' H := by
  cases H with
  | nil => trivial
  | cons x H => exact h.imp id (fun z => Int32.lt_of_lt_of_le z hr)
def fol (tt : Nat → Nat) (sg : Nat → Int32) (r : Int32) (k : Nat) (t : Bool) : Prop := ¬ (tt k = 6 ∧ r ≤ rkI (sg k) ∧ ¬ (rkI (sg k) = 3 ∧ t = true))
section SIM
variable {tt : Nat → Nat} {pc sg : Nat → Int32} {r : Int32} {X : Nat → List Int32 → Nat → rR} {nb nn : Nat}
def SimL (tt : Nat → Nat) (pc sg : Nat → Int32) (r : Int32) (X : Nat → List Int32 → Nat → rR) (nb nn : Nat) : Prop := ∀ (k : Nat) (C : List Int32) (a : Nat) (H : List Int32) (te : Nat → Bool), stb r H → cnO (-10) H = nn → (r ≤ 3 → te nb = false) → 1 ≤ k →
  (∀ k' C' a', X k C a = (k', some (C', a')) → k < k' ∧ ∃ C'' H'' te', (∀ q, q ≤ r → setl q H'' C'' = setl q H C') ∧ (∀ j, j < nb → te' j = te j) ∧ (3 < r → te' nb = te nb) ∧ fol tt sg r k' (te' nb) ∧ ∀ F, rm tt pc sg (F + (k' - k)) true nb nn k C H a te = rm tt pc sg F false nb nn k' C'' H'' a' te') ∧
  ∀ k', X k C a = (k', none) → k ≤ k' ∧ ∃ Cx ax, ∀ F, rm tt pc sg (F + 1 + (k' - k)) true nb nn k C H a te = some (false, k', Cx, ax)
def SimP (tt : Nat → Nat) (pc sg : Nat → Int32) (X : Nat → List Int32 → Nat → rR) (nb nn : Nat) : Prop := ∀ (k : Nat) (C : List Int32) (a : Nat) (H : List Int32) (te : Nat → Bool), cnO (-10) H = nn → 1 ≤ k →
  (∀ k' C' a', X k C a = (k', some (C', a')) → k < k' ∧ ∃ te', (∀ j, j ≤ nb → te' j = te j) ∧ ∀ F, rm tt pc sg (F + (k' - k)) true nb nn k C H a te = rm tt pc sg F false nb (cnO (-10) (setl 6 H C').1) k' (setl 6 H C').2 (setl 6 H C').1 a' te') ∧
  ∀ k', X k C a = (k', none) → k ≤ k' ∧ ∃ Cx ax, ∀ F, rm tt pc sg (F + 1 + (k' - k)) true nb nn k C H a te = some (false, k', Cx, ax)
theorem SimP.L (h : SimP tt pc sg X nb nn) (hsg : ∀ k, tt k = 6 → 1 ≤ rkI (sg k) ∧ rkI (sg k) ≤ 5) : SimL tt pc sg 6 X nb nn := by
  intro k C a H te hst hn hte hk
  obtain ⟨h1, h2⟩ := h k C a H te hn hk
  refine ⟨fun k' C' a' hX => ?_, h2⟩
  obtain ⟨h3, te', h4, h5⟩ := h1 k' C' a' hX
  rw [hst.s C', hn] at h5
  refine ⟨h3, C', H, te', fun q _ => rfl, fun j hj => h4 j (by omega), fun _ => h4 nb (Nat.le_refl nb), ?_, h5⟩
  rintro ⟨z1, z2, -⟩
  exact absurd (Int32.le_trans z2 (hsg k' z1).2) (by decide)
theorem rk_10 : rkI (-10) = 6 := by decide
/-- a level over the one below it -/
theorem SimL.lp {one : Nat → List Int32 → Nat → rR} {r1 : Int32} (hr1 : ∀ z : Int32, r < z ↔ r1 ≤ z) (hone : SimL tt pc sg r1 one nb nn) (hsg : ∀ k, tt k = 6 → (1 ≤ rkI (sg k) ∧ rkI (sg k) ≤ 5) ∧ ¬ sg k = -10 ∧ ¬ sg k = -11) (htz : ∀ k, 97 ≤ k → tt k = 0) {H : List Int32} (hst : stb r H) (hcn : cnO (-10) H = nn) (te : Nat → Bool) : ∀ (j k : Nat) (C' : List Int32) (a : Nat) (C'' H'' : List Int32) (te1 : Nat → Bool), 1 ≤ k → (∀ q, q ≤ r → setl q H'' C'' = setl q H C') → (∀ i, i < nb → te1 i = te i) → (3 < r → te1 nb = te nb) → fol tt sg r1 k (te1 nb) → (r = 3 → (j = 1 ∧ te1 nb = false) ∨ (j = 0 ∧ te1 nb = true)) → (¬ r = 3 → 97 ≤ k + j) →
    (∀ k' D' a', lpR tt sg r one j k C' a = (k', some (D', a')) → k ≤ k' ∧ ∃ D'' K'' te', (∀ q, q ≤ r → setl q K'' D'' = setl q H D') ∧ (∀ i, i < nb → te' i = te i) ∧ (3 < r → te' nb = te nb) ∧ fol tt sg r k' (te' nb) ∧ ∀ F, rm tt pc sg (F + (k' - k)) false nb nn k C'' H'' a te1 = rm tt pc sg F false nb nn k' D'' K'' a' te') ∧
    ∀ k', lpR tt sg r one j k C' a = (k', none) → k ≤ k' ∧ ∃ Cx ax, ∀ F, rm tt pc sg (F + 1 + (k' - k)) false nb nn k C'' H'' a te1 = some (false, k', Cx, ax) := by
  intro j
  induction j with
  | zero =>
    intro k C' a C'' H'' te1 hk hI h1 h2 hf h3 h97
    refine ⟨fun k' D' a' hX => ?_, fun k' hX => by rw [lpR] at hX; cases hX⟩
    rw [lpR] at hX
    cases hX
    refine ⟨Nat.le_refl k, C'', H'', te1, hI, h1, h2, ?_, fun F => by rw [Nat.sub_self]; rfl⟩
    rintro ⟨z1, z2, z3⟩
    by_cases e3 : r = 3
    · rcases h3 e3 with ⟨z, -⟩ | ⟨-, zt⟩
      · exact absurd z (by decide)
      · by_cases e4 : rkI (sg k) = 3
        · exact z3 ⟨e4, zt⟩
        · refine hf ⟨z1, (hr1 _).mp ?_, z3⟩
          exact Int32.lt_of_le_of_ne z2 (fun q => e4 (by rw [← q, e3]))
    · have := htz k (by have := h97 e3; omega)
      rw [this] at z1
      exact absurd z1 (by decide)
  | succ j ih =>
    intro k C' a C'' H'' te1 hk hI h1 h2 hf h3 h97
    by_cases e : tt k = 6 ∧ rkI (sg k) = r
    · obtain ⟨⟨g1, g2⟩, g3, g4⟩ := hsg k e.1
      -- the model takes the sign
      have hset : setl r H'' C'' = (H, C') := by rw [hI r (Int32.le_refl r), hst.s]
      have hnt : ¬ (rkI (sg k) = 3 ∧ te1 nb = true) := by
        rintro ⟨z1, z2⟩
        have e3 : r = 3 := by rw [← e.2, z1]
        rcases h3 e3 with ⟨-, zt⟩ | ⟨z, -⟩
        · rw [z2] at zt; exact absurd zt (by decide)
        · exact absurd z (by omega)
      have step : ∀ F, rm tt pc sg (F + 1) false nb nn k C'' H'' a te1 = rm tt pc sg F true nb nn (k + 1) C' (sg k :: H) a (fun i => if i = nb then (decide (rkI (sg k) = 3) || (decide (3 < rkI (sg k)) && te1 nb)) else te1 i) := fun F => by
        rw [rm, if_neg (by rw [e.1]; decide), if_neg (by rw [e.1]; exact fun z => absurd z.1 (by decide)), if_pos ⟨e.1, hnt⟩, e.2, hset]
      have hlt : r < r1 := (hr1 r1).mpr (Int32.le_refl r1)
      obtain ⟨o1, o2⟩ := hone (k + 1) C' a (sg k :: H) (fun i => if i = nb then (decide (rkI (sg k) = 3) || (decide (3 < rkI (sg k)) && te1 nb)) else te1 i) (Or.inr (by rw [e.2]; exact hlt)) (by rw [cnO, if_neg g3, hcn, Nat.add_zero]) (fun z => by
        have : r < 3 := Int32.lt_of_lt_of_le hlt z
        rw [if_pos rfl, e.2, decide_eq_false (fun q => absurd this (by rw [q]; exact Int32.lt_irrefl)), decide_eq_false (fun q => Int32.lt_irrefl (Int32.lt_trans this q))]
        rfl) (by omega)
      have popS : ∀ q, q ≤ r → ∀ D, setl q (sg k :: H) D = setl q H (D ++ [sg k]) := fun q hq D => by
        rw [setl, if_neg]
        rintro (z | z)
        · exact g4 z
        · rw [e.2] at z
          exact Int32.lt_irrefl (Int32.lt_of_lt_of_le z hq)
      have hlp : lpR tt sg r one (j + 1) k C' a = (match one (k + 1) C' a with
        | (k', none) => (k', none)
        | (k', some (D', a')) => lpR tt sg r one j k' (D' ++ [sg k]) a') := by rw [lpR, if_pos e]
      rcases hone1 : one (k + 1) C' a with ⟨k2, _ | ⟨D2, a2⟩⟩
      · rw [hone1] at hlp
        dsimp only at hlp
        obtain ⟨p1, Cx, ax, p2⟩ := o2 k2 hone1
        refine ⟨fun k' D' a' hX => (by rw [hlp] at hX; cases hX), fun k' hX => ?_⟩
        rw [hlp] at hX
        cases hX
        refine ⟨by omega, Cx, ax, fun F => ?_⟩
        rw [show F + 1 + (k2 - k) = (F + 1 + (k2 - (k + 1))) + 1 by omega, step]
        exact p2 F
      · rw [hone1] at hlp
        dsimp only at hlp
        obtain ⟨p1, E'', K'', te2, p2, p3, p4, p5, p6⟩ := o1 k2 D2 a2 hone1
        have hle : r ≤ r1 := Int32.le_of_lt hlt
        have t1 : ∀ i, i < nb → te2 i = te i := fun i hi => by rw [p3 i hi, if_neg (by omega), h1 i hi]
        obtain ⟨q1, q2⟩ := ih k2 (D2 ++ [sg k]) a2 E'' K'' te2 (by omega) (fun q hq => by rw [p2 q (Int32.le_trans hq hle), popS q hq]) t1 (fun z => by
            rw [p4 (Int32.lt_trans z hlt), if_pos rfl, e.2, decide_eq_false (fun q => absurd z (by rw [q]; exact Int32.lt_irrefl)), decide_eq_true z, Bool.false_or, Bool.true_and]
            exact h2 z) p5 (fun z => Or.inr ⟨by rcases h3 z with ⟨q, -⟩ | ⟨q, -⟩ <;> omega, by rw [p4 (by rw [← z]; exact hlt), if_pos rfl, e.2, z]; rfl⟩) (fun z => by have := h97 z; omega)
        refine ⟨fun k' D' a' hX => ?_, fun k' hX => ?_⟩
        · rw [hlp] at hX
          obtain ⟨r2, D'', M'', te3, r3, r4, r5, r6, r7⟩ := q1 k' D' a' hX
          refine ⟨by omega, D'', M'', te3, r3, r4, r5, r6, fun F => ?_⟩
          rw [show F + (k' - k) = ((F + (k' - k2)) + (k2 - (k + 1))) + 1 by omega, step, p6, r7]
        · rw [hlp] at hX
          obtain ⟨r2, Cx, ax, r3⟩ := q2 k' hX
          refine ⟨by omega, Cx, ax, fun F => ?_⟩
          rw [show F + 1 + (k' - k) = ((F + 1 + (k' - k2)) + (k2 - (k + 1))) + 1 by omega, step, p6, r3]
    · have hlp : lpR tt sg r one (j + 1) k C' a = (k, some (C', a)) := by rw [lpR, if_neg e]
      refine ⟨fun k' D' a' hX => ?_, fun k' hX => by rw [hlp] at hX; cases hX⟩
      rw [hlp] at hX
      cases hX
      refine ⟨Nat.le_refl k, C'', H'', te1, hI, h1, h2, ?_, fun F => by rw [Nat.sub_self]; rfl⟩
      rintro ⟨z1, z2, z3⟩
      exact hf ⟨z1, (hr1 _).mp (Int32.lt_of_le_of_ne z2 (fun q => e ⟨z1, q.symm⟩)), z3⟩
end SIM
