/-! PART 99.lawc: what holds at the law's entry (by gen_start.py) -/
theorem ws_str : ∀ i, i < 11 → Cond.stringRef RX7 (84 + 2 * i) (mh_txt.getD i "") ∈ lw_tbl
  | 0, _ => List.mem_append_right _ (List.mem_append_right _ (List.mem_append_right _ (List.mem_append_right _ (List.mem_append_left _ (List.mem_of_getElem? (i := 26) (by decide +kernel))))))
  | 1, _ => List.mem_append_right _ (List.mem_append_right _ (List.mem_append_right _ (List.mem_append_right _ (List.mem_append_left _ (List.mem_of_getElem? (i := 27) (by decide +kernel))))))
  | 2, _ => List.mem_append_right _ (List.mem_append_right _ (List.mem_append_right _ (List.mem_append_right _ (List.mem_append_left _ (List.mem_of_getElem? (i := 28) (by decide +kernel))))))
  | 3, _ => List.mem_append_right _ (List.mem_append_right _ (List.mem_append_right _ (List.mem_append_right _ (List.mem_append_left _ (List.mem_of_getElem? (i := 108) (by decide +kernel))))))
  | 4, _ => List.mem_append_right _ (List.mem_append_right _ (List.mem_append_right _ (List.mem_append_right _ (List.mem_append_left _ (List.mem_of_getElem? (i := 109) (by decide +kernel))))))
  | 5, _ => List.mem_append_right _ (List.mem_append_right _ (List.mem_append_right _ (List.mem_append_right _ (List.mem_append_left _ (List.mem_of_getElem? (i := 110) (by decide +kernel))))))
  | 6, _ => List.mem_append_right _ (List.mem_append_right _ (List.mem_append_right _ (List.mem_append_right _ (List.mem_append_left _ (List.mem_of_getElem? (i := 177) (by decide +kernel))))))
  | 7, _ => List.mem_append_right _ (List.mem_append_right _ (List.mem_append_right _ (List.mem_append_right _ (List.mem_append_left _ (List.mem_of_getElem? (i := 178) (by decide +kernel))))))
  | 8, _ => List.mem_append_right _ (List.mem_append_right _ (List.mem_append_right _ (List.mem_append_right _ (List.mem_append_left _ (List.mem_of_getElem? (i := 179) (by decide +kernel))))))
  | 9, _ => List.mem_append_right _ (List.mem_append_right _ (List.mem_append_right _ (List.mem_append_right _ (List.mem_append_left _ (List.mem_of_getElem? (i := 180) (by decide +kernel))))))
  | 10, _ => List.mem_append_right _ (List.mem_append_right _ (List.mem_append_right _ (List.mem_append_right _ (List.mem_append_left _ (List.mem_of_getElem? (i := 181) (by decide +kernel))))))
  | i + 11, h => absurd h (by omega)
theorem ws_lab : Cond.laysStatic RX9 "ABOVE" "[I" ∈ lw_tbl := List.mem_append_right _ (List.mem_append_right _ (List.mem_append_left _ (List.mem_of_getElem? (i := 181) (by decide +kernel))))
theorem ws_lcs : Cond.laysStatic RJ0 "COMPACT_STRINGS" "Z" ∈ lw_tbl := List.mem_append_right _ (List.mem_append_right _ (List.mem_append_right _ (List.mem_append_right _ (List.mem_append_left _ (List.mem_of_getElem? (i := 42) (by decide +kernel))))))
theorem ws_lfm : Cond.laysStatic RJ3 "SIOOBE_FORMATTER" "Ljava/util/function/BiFunction;" ∈ lw_tbl := List.mem_append_right _ (List.mem_append_right _ (List.mem_append_right _ (List.mem_append_right _ (List.mem_append_left _ (List.mem_of_getElem? (i := 58) (by decide +kernel))))))
theorem ws_iab : Cond.initialized RX9 ∈ lw_tbl := List.mem_append_right _ (List.mem_append_left _ (List.mem_of_getElem? (i := 1) (by decide +kernel)))
theorem ws_ics : Cond.initialized RJ0 ∈ lw_tbl := List.mem_append_right _ (List.mem_append_left _ (List.mem_of_getElem? (i := 16) (by decide +kernel)))
theorem ws_ifm : Cond.initialized RJ3 ∈ lw_tbl := List.mem_append_right _ (List.mem_append_left _ (List.mem_of_getElem? (i := 18) (by decide +kernel)))
abbrev nC : Cond := Jvm.Cond.and given_1 narrow_1
abbrev tS9 (i : Nat) : Term := Term.string RX7 (84 + 2 * i)
theorem fl_ex : ∀ i, i < 11 → Cond.exactly (tS9 i) "java/lang/String" ∈ flatC nC := by decide +kernel
theorem fl_co : ∀ i, i < 11 → Cond.eq (.field (tS9 i) "java/lang/String" "coder" "B") (.int 0) ∈ flatC nC := by decide +kernel
theorem fl_ar : ∀ i, i < 11 → Cond.arrayOf (.field (tS9 i) "java/lang/String" "value" "[B") .byte ∈ flatC nC := by decide +kernel
theorem fl_le : ∀ i, i < 11 → Cond.eq (.length (.field (tS9 i) "java/lang/String" "value" "[B")) (.int (Int32.ofNat (mh_len.getD i 0))) ∈ flatC nC := by decide +kernel
theorem fl_el : ∀ i, i < 11 → ∀ j, j < mh_len.getD i 0 → Cond.eq (.elem (.field (tS9 i) "java/lang/String" "value" "[B") (.int (Int32.ofNat j))) (.int ((mh_byt.getD i []).getD j 0)) ∈ flatC nC := by decide +kernel
theorem fl_ne : ∀ i, i < 11 → ∀ j, j < 11 → i ≠ j → Cond.not (Cond.eq (tS9 i) (tS9 j)) ∈ flatC nC ∨ Cond.not (Cond.eq (tS9 j) (tS9 i)) ∈ flatC nC := by decide +kernel
abbrev tAb : Term := Term.static RX9 "ABOVE" "[I"
theorem fl_aa : Cond.arrayOf tAb .int ∈ flatC nC := by decide +kernel
theorem fl_al : Cond.eq (.length tAb) (.int (Int32.ofNat 6)) ∈ flatC nC := by decide +kernel
theorem fl_ae : ∀ j, j < 6 → Cond.eq (.elem tAb (.int (Int32.ofNat j))) (.int (ab j)) ∈ flatC nC := by decide +kernel
theorem fl_cs : Cond.eq (.static RJ0 "COMPACT_STRINGS" "Z") (.int 1) ∈ flatC nC := by decide +kernel
theorem fl_fm : Cond.isRef (.static RJ3 "SIOOBE_FORMATTER" "Ljava/util/function/BiFunction;") ∈ flatC nC := by decide +kernel
section LWS
variable {args : Array Value} {s : State}
theorem ar_p {ty : FieldType} (h : (Cond.arrayClass ty).before args s = true) : ∃ cA : ClassId, ArrOfT s cA ty ∧ s.vm.findClass ("[" ++ ty.toString) = some cA := by
  obtain ⟨cA, kA, comp, h1, h2, h3⟩ := Cond.arrayClass_spec h
  exact ⟨cA, fun n z => ⟨fun k h => (by cases h), kA, h2, comp, h3⟩, h1⟩
theorem ar_o {C : String} (h : (Cond.arrayOver (.object C)).before args s = true) : ∃ cA : ClassId, ArrOfT s cA (.object C) ∧ va_RA s cA (.object C) := by
  obtain ⟨comp, cA, kA, h1, -, h3, h4, h5⟩ := Cond.arrayOver_spec h
  exact ⟨cA, fun n z => ⟨fun k h => (by cases h), kA, h3, comp, h4⟩, kA, comp, h3, h4, h1, h5⟩
theorem ar_8 (hts : ∀ w ∈ lw_tbl, w.before args s = true) : ∀ k, k < 8 → ∃ cA : ClassId, ArrOfT s cA (mh_ty k) ∧ va_RA s cA (mh_ty k)
  | 0, _ => by obtain ⟨cA, h1, h2⟩ := ar_p (hts _ w_109); exact ⟨cA, h1, h2⟩
  | 1, _ => by obtain ⟨cA, h1, h2⟩ := ar_p (hts _ w_1204); exact ⟨cA, h1, h2⟩
  | 2, _ => by obtain ⟨cA, h1, h2⟩ := ar_p (hts _ w_1205); exact ⟨cA, h1, h2⟩
  | 3, _ => by obtain ⟨cA, h1, h2⟩ := ar_p (hts _ w_1203); exact ⟨cA, h1, h2⟩
  | 4, _ => ar_o (hts _ w_287)
  | 5, _ => ar_o (hts _ w_289)
  | 6, _ => ar_o (hts _ w_111)
  | 7, _ => ar_o (hts _ w_119)
  | k + 8, h => absurd h (by omega)
theorem kn_11 (hts : ∀ w ∈ lw_tbl, w.before args s = true) : ∀ (c : Nat) (q : vw_C), vwCl[c]? = some q → ∃ (cC : ClassId) (iS : Nat → Nat), u_Kn s q.1 q.2.1 q.2.2 cC iS := by
  intro c q hq
  match c, hq with
  | 0, hq => cases hq; exact u_known hts clX0.2.2.2 (hts _ w_85)
  | 1, hq => cases hq; exact u_known hts clX1.2.2.2 (hts _ w_219)
  | 2, hq => cases hq; exact u_known hts clX2.2.2.2 (hts _ w_113)
  | 3, hq => cases hq; exact u_known hts clX3.2.2.2 (hts _ w_91)
  | 4, hq => cases hq; exact u_known hts clX4.2.2.2 (hts _ w_290)
  | 5, hq => cases hq; exact u_known hts clX5.2.2.2 (hts _ w_308)
  | 6, hq => cases hq; exact u_known hts clX6.2.2.2 (hts _ w_135)
  | 7, hq => cases hq; exact u_known hts clX7.2.2.2 (hts _ w_242)
  | 8, hq => cases hq; exact u_known hts clX8.2.2.2 (hts _ w_446)
  | 9, hq => cases hq; exact u_known hts clX9.2.2.2 (hts _ w_77)
  | 10, hq => cases hq; exact u_known hts clX10.2.2.2 (hts _ w_1095)
  | c + 11, hq => simp [vwCl] at hq
theorem mh_T0 (hts : ∀ w ∈ lw_tbl, w.before args s = true) : mh_T s := by
  intro w hw hb
  have h1 := hts w hw
  rcases mh_tb_cases hb with hg | ⟨a, i, x, b, rfl⟩ | ⟨a, i, b, n, d, q, rfl⟩ | ⟨C, rfl⟩
  · exact word_at (State.WarmedH.refl s) (good_of_word hg) h1
  · exact va_Nw.of rfl h1
  · exact va_Nw.of rfl h1
  · exact va_AO.use (va_AO.of h1)
theorem ln_sz {tm : Term} {v : Value} {t : Nat} {cell : Cell} (hlen : (Term.length tm).eval args s none [] s = some v) (ht : tm.eval args s none [] s = some (.ref t)) (h1 : s.heap[t]? = some cell) : cell.slots.size < 2 ^ 31 := by
  obtain ⟨t', cell', ht', harr, -⟩ := Term.length_spec hlen
  cases ht.symm.trans ht'
  obtain ⟨hcell, -, -, -⟩ := State.arrayAt?_spec harr
  cases h1.symm.trans hcell
  simp only [Term.eval, ht, harr, Option.bind_eq_bind, Option.bind_some] at hlen
  by_cases hlt : cell.slots.size < 2147483648
  · exact hlt
  · simp [hlt] at hlen
/-- the static table -/
theorem ab_X (hs : ∀ w ∈ flatC nC, w.before args s = true) : ∃ t : Nat, tAb.eval args s none [] s = some (.ref t) ∧ t < s.heap.size ∧ va_X t 6 ab s s.heap := by
  have hlen := va_eqt (hs _ fl_al)
  obtain ⟨t, ht, cell, h1, h2, h3, h4, h5, h6, -⟩ := va_Tof (f := fun j => .int (ab j)) (A := fun _ => False) (by decide) (hs _ fl_aa) hlen (fun j hj => va_eqt (hs _ (fl_ae j hj))) (fun _ _ z => z)
  refine ⟨t, ht, (Array.getElem?_eq_some_iff.mp h1).1, cell, h1, h2, h3, ?_, h6⟩
  have hsz : cell.slots.size < 2 ^ 31 := ln_sz hlen ht h1
  exact (nI_eq (a := cell.slots.size) (b := 6) hsz (by decide)).mp h5
end LWS
/-- a world's names and a picture of the heap at the entry -/
theorem lw_start {args : Array Value} {s : State} {b L : Nat} {xs : Nat → Int32} (l : Launch) (hts : ∀ w ∈ lw_tbl, w.before args s = true) (hs : ∀ w ∈ flatC nC, w.before args s = true) (hX : va_X b L xs s s.heap) (hbl : b < s.heap.size) : ∃ (E : mh_E) (h : mh_H) (xs' : Nat → Int32), E.1 = l ∧ mh_z E = s.heap.size ∧ mh_K E s ∧ mh_P E s h s.heap ∧ h.1 = s.heap.size ∧ h.2 b = some (.inr (.inr (L, xs'))) ∧ E.2.2.2.2.1 < s.heap.size ∧ h.2 E.2.2.2.2.1 = some (.inr (.inr (6, ab))) := by
  have hA : ∀ a : Nat, a < s.heap.size → ¬ (fun q : Nat => s.heap.size ≤ q) a := fun a h => Nat.not_le.mpr h
  obtain ⟨dK, hdK⟩ : ∃ f : Nat → ClassId × (Nat → Nat), ∀ (c : Nat) (q : vw_C), vwCl[c]? = some q → u_Kn s q.1 q.2.1 q.2.2 (f c).1 (f c).2 := by
    obtain ⟨c0, i0, -⟩ := kn_11 hts 0 _ rfl
    have h0 : ∀ c : Nat, ∃ x : ClassId × (Nat → Nat), ∀ q : vw_C, vwCl[c]? = some q → u_Kn s q.1 q.2.1 q.2.2 x.1 x.2 := fun c => by
      cases hq : vwCl[c]? with
      | none => exact ⟨(c0, i0), fun q h => by cases h⟩
      | some q =>
        obtain ⟨cC, iS, h⟩ := kn_11 hts c q hq
        exact ⟨(cC, iS), fun q' h' => by cases h'; exact h⟩
    obtain ⟨f, hf⟩ := Classical.axiomOfChoice h0
    exact ⟨f, hf⟩
  obtain ⟨dA, hdA⟩ : ∃ f : Nat → ClassId, ∀ k, k < 8 → ArrOfT s (f k) (mh_ty k) ∧ va_RA s (f k) (mh_ty k) := by
    obtain ⟨c0, -⟩ := ar_8 hts 0 (by decide)
    have h0 : ∀ k : Nat, ∃ x : ClassId, k < 8 → ArrOfT s x (mh_ty k) ∧ va_RA s x (mh_ty k) := fun k => by
      by_cases hk : k < 8
      · obtain ⟨cA, h⟩ := ar_8 hts k hk
        exact ⟨cA, fun _ => h⟩
      · exact ⟨c0, fun h => absurd h hk⟩
    obtain ⟨f, hf⟩ := Classical.axiomOfChoice h0
    exact ⟨f, hf⟩
  obtain ⟨adK, adV, hSS, hev⟩ := vk_Sof (args := args) (s := s) (N := 11) (tm := tS9) (len := mh_len) (byt := mh_byt) (A := fun q : Nat => s.heap.size ≤ q) (by decide +kernel) (fun i hi => hs _ (fl_ex i hi)) (fun i hi => hs _ (fl_co i hi)) (fun i hi => hs _ (fl_ar i hi)) (fun i hi => hs _ (fl_le i hi)) (fun i hi j hj => hs _ (fl_el i hi j hj)) (fun i j hi hj hne => (fl_ne i hi j hj hne).imp (hs _) (hs _)) hA
  obtain ⟨t, ht, htl, hXt⟩ := ab_X hs
  have hZ1 : va_Z RX9 "ABOVE" "[I" (.ref t) (fun q : Nat => s.heap.size ≤ q) s s.heap := va_Zof (hts _ ws_lab) (hts _ ws_iab) ht hA
  have hZ2 : va_Z RJ0 "COMPACT_STRINGS" "Z" (.int 1) (fun q : Nat => s.heap.size ≤ q) s s.heap := va_Zof (hts _ ws_lcs) (hts _ ws_ics) (va_eqi (hs _ fl_cs)) hA
  obtain ⟨o, hZ3⟩ : ∃ o : Option Nat, va_Z RJ3 "SIOOBE_FORMATTER" "Ljava/util/function/BiFunction;" (va_rf o) (fun q : Nat => s.heap.size ≤ q) s s.heap := by
    rcases va_Zqof (hts _ ws_lfm) (hts _ ws_ifm) (hs _ fl_fm) hA with z | ⟨q, z⟩
    · exact ⟨none, z⟩
    · exact ⟨some q, z⟩
  have hK : mh_K (l, (fun c => (dK c).1, fun c => (dK c).2), dA, s.heap.size, t, adK, adV, o) s := ⟨mh_T0 hts, hdK, hdA, fun i hi => vk_R.of (hts _ (ws_str i hi)) (hev i hi)⟩
  by_cases e : b = t
  · subst e
    have eL : L = 6 := by
      obtain ⟨c1, a1, -, -, a4, -⟩ := hX
      obtain ⟨c2, b1, -, -, b4, -⟩ := hXt
      cases a1.symm.trans b1
      exact a4.symm.trans b4
    subst eL
    refine ⟨(l, (fun c => (dK c).1, fun c => (dK c).2), dA, s.heap.size, b, adK, adV, o), (s.heap.size, fun q => if q = b then some (.inr (.inr (6, ab))) else none), ab, rfl, rfl, hK, ⟨rfl, Nat.le_refl _, ⟨hZ1, hSS, hZ2, hZ3⟩, fun a c hc => ?_⟩, rfl, if_pos rfl, htl, if_pos rfl⟩
    dsimp only at hc
    by_cases ea : a = b
    · subst ea
      rw [if_pos rfl] at hc
      cases hc
      exact ⟨hbl, hXt⟩
    · rw [if_neg ea] at hc; cases hc
  · refine ⟨(l, (fun c => (dK c).1, fun c => (dK c).2), dA, s.heap.size, t, adK, adV, o), (s.heap.size, fun q => if q = t then some (.inr (.inr (6, ab))) else if q = b then some (.inr (.inr (L, xs))) else none), xs, rfl, rfl, hK, ⟨rfl, Nat.le_refl _, ⟨hZ1, hSS, hZ2, hZ3⟩, fun a c hc => ?_⟩, rfl, (if_neg e).trans (if_pos rfl), htl, if_pos rfl⟩
    dsimp only at hc
    by_cases ea : a = t
    · subst ea
      rw [if_pos rfl] at hc
      cases hc
      exact ⟨htl, hXt⟩
    · rw [if_neg ea] at hc
      by_cases eb : a = b
      · subst eb
        rw [if_pos rfl] at hc
        cases hc
        exact ⟨hbl, hX⟩
      · rw [if_neg eb] at hc; cases hc
