/-! PART 03: THE MACHINE OVER AN ABSTRACT HEAP. A heap is pictured as a whole by a function from addresses to cells: a method's contract says what the picture becomes; no frame rule is needed. -/
abbrev mh_C : Type := (Nat × vp_A) ⊕ (Nat × List Value) ⊕ (Nat × (Nat → Int32))
abbrev mh_H : Type := Nat × (Nat → Option mh_C)
/-- the launch; the classes' numbers and slots; the array classes' numbers; where the law's own cells begin; where ABOVE lies; where the eleven texts and their bytes lie; a formatter that nobody asks -/
abbrev mh_E : Type := Launch × va_G × (Nat → ClassId) × Nat × Nat × (Nat → Nat) × (Nat → Nat) × Option Nat
def mh_len : List Nat := [4, 3, 4, 3, 2, 2, 1, 1, 3, 2, 2]
def mh_byt : List (List Int32) := [[99, 111, 115, 116], [102, 101, 101], [102, 105, 110, 101], [119, 121, 108], [99, 109], [119, 114], [124], [38], [60, 61, 62], [43, 45], [42, 47]]
def mh_txt : List String := ["cost", "fee", "fine", "wyl", "cm", "wr", "|", "&", "<=>", "+-", "*/"]
abbrev mh_aK (E : mh_E) : Nat → Nat := E.2.2.2.2.2.1
abbrev mh_aV (E : mh_E) : Nat → Nat := E.2.2.2.2.2.2.1
def mh_z (E : mh_E) : Nat := E.2.2.2.1
def mh_A (E : mh_E) : Nat → Prop := fun q => mh_z E ≤ q
def mh_ty (k : Nat) : FieldType := match k with
  | 0 => .int
  | 1 => .char
  | 2 => .boolean
  | 3 => .long
  | 4 => .object RX4
  | 5 => .object RX5
  | 6 => .object RX6
  | _ => .object RX8
def mh_tb (w : Cond) : Bool := match w with
  | .methodLinkNest .. => true
  | .fieldLinkNest .. => true
  | .arrayOver (.object _) => true
  | w => goodWord w
theorem mh_tb_cases {w : Cond} (h : mh_tb w = true) : goodWord w = true ∨ (∃ a i x b, w = .methodLinkNest a i x b) ∨ (∃ a i b n d q, w = .fieldLinkNest a i b n d q) ∨ ∃ C, w = .arrayOver (.object C) := by
  unfold mh_tb at h
  split at h
  · exact Or.inr (Or.inl ⟨_, _, _, _, rfl⟩)
  · exact Or.inr (Or.inr (Or.inl ⟨_, _, _, _, _, _, rfl⟩))
  · exact Or.inr (Or.inr (Or.inr ⟨_, rfl⟩))
  · exact Or.inl h
/-- the tables' words, at a state -/
def mh_T (U : State) : Prop := ∀ w ∈ lw_tbl, mh_tb w = true → w.before #[] U = true
theorem mh_T.moved {s U : State} (hW : s.WarmedH U.vm) (h : mh_T s) : mh_T U := by
  intro w hw hb
  have h1 := h w hw hb
  rcases mh_tb_cases hb with hg | ⟨a, i, x, b, rfl⟩ | ⟨a, i, b, n, d, q, rfl⟩ | ⟨C, rfl⟩
  · exact word_at hW (good_of_word hg) h1
  · exact va_Nw.warmM hW h1
  · exact va_Nw.warmF hW h1
  · exact va_AO.moved hW.alike h1
theorem mh_T.use {U : State} (h : mh_T U) {w : Cond} (hw : w ∈ lw_tbl) (hb : mh_tb w = true) {A : Array Value} : w.before A U = true := by
  have h1 := h w hw hb
  rcases mh_tb_cases hb with hg | ⟨a, i, x, b, rfl⟩ | ⟨a, i, b, n, d, q, rfl⟩ | ⟨C, rfl⟩
  · exact word_at (State.WarmedH.refl U) (good_of_word hg) h1
  · exact va_Nw.use rfl h1
  · exact va_Nw.use rfl h1
  · exact va_AO.use h1
def mh_K (E : mh_E) (U : State) : Prop := mh_T U ∧ (∀ (c : Nat) (q : vw_C), vwCl[c]? = some q → u_Kn U q.1 q.2.1 q.2.2 (E.2.1.1 c) (E.2.1.2 c)) ∧ (∀ k : Nat, k < 8 → ArrOfT U (E.2.2.1 k) (mh_ty k) ∧ va_RA U (E.2.2.1 k) (mh_ty k)) ∧ ∀ i : Nat, i < 11 → vk_R RX7 (84 + 2 * i) (mh_txt.getD i "") (mh_aK E i) U
theorem mh_K.moved {E : mh_E} {s U : State} (hW : s.WarmedH U.vm) (h : mh_K E s) : mh_K E U :=
  ⟨h.1.moved hW, fun c q hq => u_Kn_moved hW.alike (h.2.1 c q hq), fun k hk => ⟨arrOfT_moved hW.alike (h.2.2.1 k hk).1, (h.2.2.1 k hk).2.moved hW.alike⟩, fun i hi => (h.2.2.2 i hi).warm hW⟩
theorem mh_K.va {E : mh_E} {s : State} (h : mh_K E s) : va_K E.2.1 vwCl [] s := ⟨h.2.1, fun k q hq => by simp at hq⟩
def mh_cell (E : mh_E) (U : State) (H : Heap) (a : Nat) (c : mh_C) : Prop := match c with
  | .inl q => mh_z E ≤ a ∧ q.1 < 8 ∧ H[a]? = some (vp_cell (E.2.2.1 q.1) q.2)
  | .inr (.inl o) => mh_z E ≤ a ∧ va_at E.2.1 vwCl (a, .inr o) H
  | .inr (.inr t) => a < mh_z E ∧ va_X a t.1 t.2 U H
theorem mh_cell.kept {E : mh_E} {U : State} {H H1 : Heap} {a : Nat} {c : mh_C} (h : mh_cell E U H a c) (hq : H1[a]? = H[a]?) : mh_cell E U H1 a c := by
  rcases c with q | o | t
  · exact ⟨h.1, h.2.1, hq.trans h.2.2⟩
  · exact ⟨h.1, h.2.kept hq⟩
  · exact ⟨h.1, h.2.kept hq⟩
theorem mh_cell.moved {E : mh_E} {u U : State} {H : Heap} {a : Nat} {c : mh_C} (hvm : u.vm.Alike U.vm) (h : mh_cell E u H a c) : mh_cell E U H a c := by
  rcases c with q | o | t
  · exact h
  · exact h
  · exact ⟨h.1, h.2.moved hvm⟩
theorem mh_cell.lt {E : mh_E} {U : State} {H : Heap} {a : Nat} {c : mh_C} (h : mh_cell E U H a c) : a < H.size := by
  rcases c with q | o | t
  · exact (Array.getElem?_eq_some_iff.mp h.2.2).1
  · exact h.2.lt
  · obtain ⟨-, scr, h1, -⟩ := h
    exact (Array.getElem?_eq_some_iff.mp h1).1
/-- what nobody writes: the static table's address, the texts, two statics of the JDK -/
def mh_O (E : mh_E) (U : State) (H : Heap) : Prop := va_Z RX9 "ABOVE" "[I" (.ref E.2.2.2.2.1) (mh_A E) U H ∧ vk_S 11 mh_len mh_byt (mh_aK E) (mh_aV E) (mh_A E) U H ∧ va_Z RJ0 "COMPACT_STRINGS" "Z" (.int 1) (mh_A E) U H ∧ va_Z RJ3 "SIOOBE_FORMATTER" "Ljava/util/function/BiFunction;" (va_rf E.2.2.2.2.2.2.2) (mh_A E) U H
theorem mh_O.moved {E : mh_E} {u U : State} {H : Heap} (hvm : u.vm.Alike U.vm) (h : mh_O E u H) : mh_O E U H := ⟨h.1.moved hvm, h.2.1.moved hvm, h.2.2.1.moved hvm, h.2.2.2.moved hvm⟩
theorem mh_O.kept {E : mh_E} {U : State} {H H1 : Heap} (h : mh_O E U H) (hq : ∀ a : Nat, a < H.size → ¬ mh_A E a → H1[a]? = H[a]?) : mh_O E U H1 := ⟨h.1.kept hq, h.2.1.kept hq, h.2.2.1.kept hq, h.2.2.2.kept hq⟩
/-- the heap is as pictured -/
def mh_P (E : mh_E) (U : State) (h : mh_H) (H : Heap) : Prop := h.1 = H.size ∧ mh_z E ≤ h.1 ∧ mh_O E U H ∧ ∀ (a : Nat) (c : mh_C), h.2 a = some c → mh_cell E U H a c
theorem mh_P.moved {E : mh_E} {u U : State} {h : mh_H} {H : Heap} (hvm : u.vm.Alike U.vm) (hP : mh_P E u h H) : mh_P E U h H := ⟨hP.1, hP.2.1, hP.2.2.1.moved hvm, fun a c hc => (hP.2.2.2 a c hc).moved hvm⟩
def mh_put (h : mh_H) (a : Nat) (c : mh_C) : mh_H := (h.1, fun q => if q = a then some c else h.2 q)
def mh_new (h : mh_H) (c : mh_C) : mh_H := (h.1 + 1, fun q => if q = h.1 then some c else h.2 q)
theorem mh_P.put {E : mh_E} {U : State} {h : mh_H} {H H1 : Heap} {a : Nat} {c : mh_C} (hP : mh_P E U h H) (hz : mh_z E ≤ a) (hs : H1.size = H.size) (ho : ∀ q : Nat, q ≠ a → H1[q]? = H[q]?) (hc : mh_cell E U H1 a c) : mh_P E U (mh_put h a c) H1 := by
  refine ⟨hP.1.trans hs.symm, hP.2.1, hP.2.2.1.kept (fun q _ hq => ho q (fun e => hq (by rw [e]; exact hz))), fun b x hb => ?_⟩
  by_cases e : b = a
  · subst e
    simp only [mh_put, if_true] at hb
    cases hb
    exact hc
  · simp only [mh_put, e, if_false] at hb
    exact (hP.2.2.2 b x hb).kept (ho b e)
theorem mh_P.new {E : mh_E} {U : State} {h : mh_H} {H H1 : Heap} {c : mh_C} (hP : mh_P E U h H) (hs : H1.size = H.size + 1) (ho : ∀ q : Nat, q < H.size → H1[q]? = H[q]?) (hc : mh_cell E U H1 H.size c) : mh_P E U (mh_new h c) H1 := by
  refine ⟨?_, ?_, hP.2.2.1.kept (fun q hq _ => ho q hq), fun b x hb => ?_⟩
  · show h.1 + 1 = H1.size
    rw [hs, hP.1]
  · exact Nat.le_succ_of_le hP.2.1
  by_cases e : b = h.1
  · subst e
    simp only [mh_new, if_true] at hb
    cases hb
    rw [hP.1]
    exact hc
  · simp only [mh_new, e, if_false] at hb
    exact (hP.2.2.2 b x hb).kept (ho b (hP.2.2.2 b x hb).lt)
/-! locals -/
def mh_get : List (Option Value) → Nat → Option Value
  | [], _ => none
  | x :: _, 0 => x
  | _ :: t, i + 1 => mh_get t i
def mh_set : List (Option Value) → Nat → Value → List (Option Value)
  | [], _, _ => []
  | _ :: t, 0, v => some v :: t
  | x :: t, i + 1, v => x :: mh_set t i v
def mh_al : Nat → List (Option Value) → List (Nat × Value)
  | _, [] => []
  | i, none :: t => mh_al (i + 1) t
  | i, some v :: t => (i, v) :: mh_al (i + 1) t
theorem mh_al_mem : ∀ (lv : List (Option Value)) (i : Nat) (q : Nat × Value), q ∈ mh_al i lv ↔ i ≤ q.1 ∧ mh_get lv (q.1 - i) = some q.2
  | [], i, q => by simp [mh_al, mh_get]
  | none :: t, i, q => by
    rw [mh_al, mh_al_mem t (i + 1) q]
    constructor
    · rintro ⟨h1, h2⟩
      refine ⟨by omega, ?_⟩
      rw [show q.1 - i = (q.1 - (i + 1)) + 1 by omega]
      exact h2
    · rintro ⟨h1, h2⟩
      by_cases e : q.1 = i
      · rw [e, Nat.sub_self] at h2
        simp [mh_get] at h2
      · refine ⟨by omega, ?_⟩
        rw [show q.1 - i = (q.1 - (i + 1)) + 1 by omega] at h2
        exact h2
  | some v :: t, i, q => by
    rw [mh_al, List.mem_cons, mh_al_mem t (i + 1) q]
    constructor
    · rintro (rfl | ⟨h1, h2⟩)
      · simp [mh_get]
      · refine ⟨by omega, ?_⟩
        rw [show q.1 - i = (q.1 - (i + 1)) + 1 by omega]
        exact h2
    · rintro ⟨h1, h2⟩
      by_cases e : q.1 = i
      · rw [e, Nat.sub_self] at h2
        simp only [mh_get, Option.some.injEq] at h2
        exact Or.inl (Prod.ext e h2.symm)
      · refine Or.inr ⟨by omega, ?_⟩
        rw [show q.1 - i = (q.1 - (i + 1)) + 1 by omega] at h2
        exact h2
theorem mh_get_set : ∀ (lv : List (Option Value)) (i j : Nat) (v w : Value), mh_get (mh_set lv i v) j = some w → (j = i ∧ w = v) ∨ (j ≠ i ∧ mh_get lv j = some w)
  | [], i, j, v, w, h => by simp [mh_set, mh_get] at h
  | x :: t, 0, 0, v, w, h => by simp [mh_set, mh_get] at h; exact Or.inl ⟨rfl, h.symm⟩
  | x :: t, 0, j + 1, v, w, h => Or.inr ⟨Nat.succ_ne_zero j, h⟩
  | x :: t, i + 1, 0, v, w, h => Or.inr ⟨(Nat.succ_ne_zero i).symm, h⟩
  | x :: t, i + 1, j + 1, v, w, h => by
    rcases mh_get_set t i j v w h with ⟨h1, h2⟩ | ⟨h1, h2⟩
    · exact Or.inl ⟨by rw [h1], h2⟩
    · exact Or.inr ⟨fun e => h1 (Nat.succ.inj e), h2⟩
/-- no long, no double, stands right ahead of the place -/
def mh_one : List (Option Value) → Nat → Bool
  | _, 0 => true
  | lv, i + 1 => match mh_get lv i with
    | some v => v.category == 1
    | none => true
theorem mh_set_has {ls : Array Slot} {nL i : Nat} {lv : List (Option Value)} {v : Value} (h : lv_has ls nL ((i, v) :: (mh_al 0 lv).filter (fun q => !(q.1 == i) && !(q.1 + 1 == i && q.2.category == 2)))) (h1 : mh_one lv i = true) : lv_has ls nL (mh_al 0 (mh_set lv i v)) := by
  refine ⟨h.1, h.2.1, fun q hq => ?_⟩
  obtain ⟨-, h2⟩ := (mh_al_mem _ _ _).mp hq
  rw [Nat.sub_zero] at h2
  rcases mh_get_set lv i q.1 v q.2 h2 with ⟨e1, e2⟩ | ⟨e1, e2⟩
  · exact h.2.2 q (List.mem_cons.mpr (Or.inl (Prod.ext e1 e2)))
  · refine h.2.2 q (List.mem_cons.mpr (Or.inr (List.mem_filter.mpr ⟨(mh_al_mem _ _ _).mpr ⟨Nat.zero_le _, by rw [Nat.sub_zero]; exact e2⟩, ?_⟩)))
    simp only [Bool.and_eq_true, Bool.not_eq_true', beq_eq_false_iff_ne, ne_eq, e1, not_false_eq_true, true_and, Bool.and_eq_false_iff]
    by_cases e3 : q.1 + 1 = i
    · subst e3
      right
      simp only [mh_one, e2, beq_iff_eq] at h1
      simp [h1]
    · left
      exact e3
def mh_two : List (Option Value) → Nat → Bool := fun lv i => mh_one lv i && (mh_get lv (i + 1)).isNone
theorem mh_set_has2 {ls : Array Slot} {nL i : Nat} {lv : List (Option Value)} {v : Value} (h : lv_has ls nL ((i, v) :: (mh_al 0 lv).filter (fun q => !(q.1 == i) && (!(q.1 == i + 1) && !(q.1 + 1 == i && q.2.category == 2))))) (h1 : mh_two lv i = true) : lv_has ls nL (mh_al 0 (mh_set lv i v)) := by
  simp only [mh_two, Bool.and_eq_true] at h1
  refine ⟨h.1, h.2.1, fun q hq => ?_⟩
  obtain ⟨-, h2⟩ := (mh_al_mem _ _ _).mp hq
  rw [Nat.sub_zero] at h2
  rcases mh_get_set lv i q.1 v q.2 h2 with ⟨e1, e2⟩ | ⟨e1, e2⟩
  · exact h.2.2 q (List.mem_cons.mpr (Or.inl (Prod.ext e1 e2)))
  · have e4 : ¬ q.1 = i + 1 := fun e => by rw [e] at e2; rw [e2] at h1; simp at h1
    refine h.2.2 q (List.mem_cons.mpr (Or.inr (List.mem_filter.mpr ⟨(mh_al_mem _ _ _).mpr ⟨Nat.zero_le _, by rw [Nat.sub_zero]; exact e2⟩, ?_⟩)))
    simp only [Bool.and_eq_true, Bool.not_eq_true', beq_eq_false_iff_ne, ne_eq, e1, e4, not_false_eq_true, true_and, Bool.and_eq_false_iff]
    by_cases e3 : q.1 + 1 = i
    · subst e3
      right
      have h5 := h1.1
      simp only [mh_one, e2, beq_iff_eq] at h5
      simp [h5]
    · left
      exact e3
theorem mh_at {ls : Array Slot} {nL i : Nat} {lv : List (Option Value)} {v : Value} (h : lv_has ls nL (mh_al 0 lv)) (hg : mh_get lv i = some v) : ls[i]? = some (.val v) :=
  h.2.2 (i, v) ((mh_al_mem _ _ _).mpr ⟨Nat.zero_le _, by rw [Nat.sub_zero]; exact hg⟩)
