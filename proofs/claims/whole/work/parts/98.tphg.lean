/-! PART 98.tphg: a new text in class and model -/
section RTX
variable {N : Nat → Int32} {T kw a : Nat} {C : List Int32} {D D' : tDT} {V V' : Nat → Nat → Int32} {X : Nat → Option Nat} {p : Prop} {m y : Nat}
theorem tx_lo {q : Nat} (hq : q < 80) (h7 : ¬ q = 7) : r_tx N T kw C a q = N q := by
  rw [r_tx, upd, if_neg h7, r_wr, if_neg (by omega), upd, if_neg (by omega), upd, if_neg (by omega)]
theorem tx_7 : r_tx N T kw C a 7 = nI (T + 1) := by rw [r_tx, upd, if_pos rfl]
theorem tx_80 (hT : T < 14) : r_tx N T kw C a (80 + 2 * T) = nI (1000 * kw + C.length) := by
  rw [r_tx, upd, if_neg (by omega), r_wr, if_neg (by omega), upd, if_neg (by omega), upd, if_pos rfl]
theorem tx_81 (hT : T < 14) : r_tx N T kw C a (81 + 2 * T) = nI a := by
  rw [r_tx, upd, if_neg (by omega), r_wr, if_neg (by omega), upd, if_pos rfl]
theorem tx_c {k : Nat} (hk : k < C.length) : r_tx N T kw C a (108 + 96 * T + k) = C.getD k 0 := by
  rw [r_tx, upd, if_neg (by omega), r_wr, if_pos (by omega), show 108 + 96 * T + k - (108 + 96 * T) = k by omega]
theorem tx_o80 {t : Nat} (ht : t < 14) (hT : T < 14) (hn : ¬ t = T) : r_tx N T kw C a (80 + 2 * t) = N (80 + 2 * t) ∧ r_tx N T kw C a (81 + 2 * t) = N (81 + 2 * t) := by
  constructor
  · rw [r_tx, upd, if_neg (by omega), r_wr, if_neg (by omega), upd, if_neg (by omega), upd, if_neg (by omega)]
  · rw [r_tx, upd, if_neg (by omega), r_wr, if_neg (by omega), upd, if_neg (by omega), upd, if_neg (by omega)]
theorem tx_oc {t k : Nat} (hT : T < 14) (hl : C.length ≤ 96) (hn : ¬ t = T) (hk : k < 96) : r_tx N T kw C a (108 + 96 * t + k) = N (108 + 96 * t + k) := by
  rw [r_tx, upd, if_neg (by omega), r_wr, if_neg (by omega), upd, if_neg (by omega), upd, if_neg (by omega)]
theorem r_cnt_cg {M : Nat → Int32} (key : Int32) : ∀ k, (∀ t, t < k → M (80 + 2 * t) = N (80 + 2 * t)) → r_cnt M key k = r_cnt N key k
  | 0, _ => rfl
  | k + 1, h => by rw [r_cnt, r_cnt, r_cnt_cg key k (fun t ht => h t (by omega)), h k (by omega)]
theorem tD_tx {t : Nat} {d : Int32 × Int32 × Nat × (Nat → Int32)} (hT : T < 14) (ht : t < T) (hl : C.length ≤ 96) (h : tD N t d) : tD (r_tx N T kw C a) t d := by
  obtain ⟨key, h1, h2, h3, h4, h5, h6⟩ := h
  have hd := h6.1
  obtain ⟨e1, e2⟩ := tx_o80 (N := N) (kw := kw) (C := C) (a := a) (t := t) (T := T) (by omega) hT (by omega)
  exact ⟨key, h1, h2, by rw [e1]; exact h3, by rw [e2]; exact h4, fun k hk => by rw [tx_oc hT hl (by omega) (by omega)]; exact h5 k hk, h6.congr (fun k hk => tx_oc hT hl (by omega) (by omega))⟩
theorem lR.monoD (h : lR D V N T X) (hD : ∀ a d, D a = some d → D' a = some d) : lR D' V N T X := ⟨h.1, h.2.1, fun t ht => by
    obtain ⟨a, d, e1, e2, e3⟩ := h.2.2.1 t ht
    exact ⟨a, d, e1, hD a d e2, e3⟩, h.2.2.2⟩
theorem cR.monoD (h : cR p D V X N m T y) (hD : ∀ a d, D a = some d → D' a = some d) : cR p D' V X N m T y := by
  obtain ⟨h1, h2, h3, h4, h5, h6, h7, h8⟩ := h
  exact ⟨h1, h2, h3, h4, h5, h6, h7, h8.monoD hD⟩
theorem wC.monoD (h : wC D V X N) (hD : ∀ a d, D a = some d → D' a = some d) : wC D' V X N := by
  obtain ⟨m, T, y, c, hy, hb⟩ := h
  exact ⟨m, T, y, c.monoD hD, hy, hb⟩
/-- a law more -/
theorem lR.tx {b : Nat} {f : Nat → Int32} (h : lR D V N T X) (hD : ∀ a d, D a = some d → D' a = some d) (hb : D' b = some (nI kw, nI a, C.length, f)) (hT : T < 14) (hkw : kw < 3) (hl : C.length ≤ 95) (hf : ∀ k, k < C.length → f k = enc (C.getD k 0)) (hw : wfL C 1) (v7 : V' 7 2 = nI (T + 1)) (v9 : ∀ key, key < 3 → V' 9 key = upd (V 9) kw (nI T) key) : lR D' V' (r_tx N T kw C a) (T + 1) (va_up X T (some b)) := by
  obtain ⟨h1, h2, h3, h4⟩ := h
  have hwT : wfT (fun k => r_tx N T kw C a (108 + 96 * T + k)) C.length := (hw.T (by omega)).congr (fun k hk => tx_c hk)
  refine ⟨v7, fun key hk => ?_, fun t ht => ?_, tx_7, by omega, fun t ht => ?_⟩
  · rw [v9 key hk]
    have hc : r_cnt (r_tx N T kw C a) (nI key) (T + 1) = cI (nI kw = nI key) (nI T) (r_cnt N (nI key) T) := by
      rw [r_cnt, tx_80 hT, (i_md hkw (by omega)).2, r_cnt_cg (nI key) T (fun t ht => (tx_o80 (by omega) hT (by omega)).1)]
    rw [hc]
    by_cases e : key = kw
    · subst e
      rw [upd, if_pos rfl, cI_t rfl, cI_t (Int32.not_lt.mp (nI_pos (by omega)))]
    · rw [upd, if_neg e, cI_f (fun z => e ((nI_eq (by omega) (by omega)).mp z).symm)]
      exact h2 key hk
  · by_cases e : t = T
    · subst e
      refine ⟨b, _, va_up_self _ _ _, hb, kw, hkw, rfl, tx_80 hT, (tx_81 hT).symm, fun k hk => ?_, hwT⟩
      rw [tx_c hk]; exact hf k hk
    · obtain ⟨a', d, e1, e2, e3⟩ := h3 t (by omega)
      exact ⟨a', d, by rw [va_up_ne _ _ e]; exact e1, hD a' d e2, tD_tx hT (by omega) (by omega) e3⟩
  · by_cases e : t = T
    · subst e
      exact ⟨kw, C.length, hkw, tx_80 hT, hwT⟩
    · obtain ⟨key, n, q1, q2, q3⟩ := h4.2.2 t (by omega)
      have := q3.1
      exact ⟨key, n, q1, by rw [(tx_o80 (by omega) hT e).1]; exact q2, q3.congr (fun k hk => tx_oc hT (by omega) e (by omega))⟩
theorem cR.tx {b : Nat} {f : Nat → Int32} (h : cR p D V X N m T y) (hD : ∀ a d, D a = some d → D' a = some d) (hb : D' b = some (nI kw, nI a, C.length, f)) (hT : T < 14) (hkw : kw < 3) (hl : C.length ≤ 95) (hf : ∀ k, k < C.length → f k = enc (C.getD k 0)) (hw : wfL C 1) (v7 : V' 7 2 = nI (T + 1)) (v9 : ∀ key, key < 3 → V' 9 key = upd (V 9) kw (nI T) key) (hv : ∀ r, r ≠ 7 → r ≠ 9 → r < 20 → V' r = V r) : cR p D' V' (va_up X T (some b)) (r_tx N T kw C a) m (T + 1) y := by
  obtain ⟨h1, h2, h3, h4, h5, h6, h7, h8⟩ := h
  have v0 := hv 0 (by decide) (by decide) (by decide)
  refine ⟨⟨by rw [v0]; exact h1.1, by rw [tx_lo (by decide) (by decide)]; exact h1.2.1, h1.2.2⟩, ⟨by rw [v0, tx_lo (by decide) (by decide)]; exact h2.1, by rw [v0, tx_lo (by decide) (by decide)]; exact h2.2⟩, ⟨by rw [v0]; exact h3.1, by rw [tx_lo (by decide) (by decide)]; exact h3.2⟩, by rw [v0, tx_lo (by decide) (by decide)]; exact h4, fun q => ⟨by rw [v0, tx_lo (by decide) (by decide)]; exact (h5 q).1, by rw [v0, tx_lo (by decide) (by decide)]; exact (h5 q).2⟩, h6.congr (fun r _ _ => hv r (by omega) (by omega) (by omega)) (fun q _ _ => tx_lo (by omega) (by omega)), fun i hi => ?_, h8.tx hD hb hT hkw hl hf hw v7 v9⟩
  have hm := h1.2.2
  obtain ⟨s1, s2⟩ := h7 i hi
  rw [hv (10 + i) (by omega) (by omega) (by omega), tx_lo (show 25 + 6 * i < 80 by omega) (by omega)]
  exact ⟨s1.congr (fun j hj => tx_lo (by omega) (by omega)), s2⟩
theorem cB.tx (h : cB N y) (hT : T < 14) (hkw : kw < 3) (hl : C.length ≤ 95) (hz : ∀ x ∈ C, okZ kw x) : cB (r_tx N T kw C a) y := by
  obtain ⟨⟨c, h1, h2⟩, h3⟩ := h
  refine ⟨⟨c, by rw [tx_lo (by decide) (by decide)]; exact h1, h2⟩, fun t ht h0 k h96 hk => ?_⟩
  by_cases e : t = T
  · subst e
    obtain ⟨e1, e2⟩ := i_md (key := kw) (n := C.length) hkw (by omega)
    rw [tx_80 hT, e2] at h0
    rw [tx_80 hT, e1, nI_clamp (by omega)] at hk
    rw [tx_c hk]
    refine hz _ ?_ (fun z => h0 (by rw [z]; rfl))
    rw [List.getD_eq_getElem?_getD, List.getElem?_eq_getElem hk]
    exact List.getElem_mem hk
  · rw [(tx_o80 ht hT e).1] at h0 hk
    rw [tx_oc hT (by omega) e h96]
    exact h3 t ht h0 k h96 hk
end RTX
section WTX
variable {D D' : tDT} {G G' : Nat → Nat → Int32} {Y Y' : Nat → Nat → Option Nat} {A A' : Nat → Nat → Int32} {F F' : Nat → Int32}
/-- behind text() -/
theorem wQ.tx (hw : wQ D G Y A F) (h1 : wC D' (cV 1 G') (Y' 0) (A' 1)) (hD : ∀ a d, D a = some d → D' a = some d) (hG : ∀ i, (i = 0 ∨ (21 ≤ i ∧ i < 66) ∨ 68 < i) → G' i = G i) (hY : Y' 1 = Y 1) (hA : xP A A') (f3 : F' 3 = F 3) (f33 : F' 33 = F 33) (h2 : G' 66 2 = 0) (h7 : F' 7 = 0) : wQ D' G' Y' A' F' := by
  obtain ⟨w1, w2, -, w4, w5, w6, w7⟩ := hw
  have ha : ∀ r, r ≠ 1 → r ≠ 9 → r ≠ 10 → r ≠ 11 → A' r = A r := hA
  refine ⟨h1, ⟨?_, ?_⟩, ⟨0, by decide, h2, h7, fun j hj => absurd hj (Nat.not_lt_zero j)⟩, ?_, fun t ht => ?_, fun q hq => ?_, fun j hj => ?_, fun j hj => ?_⟩
  · rw [hG 0 (by omega), f3]; exact w2.1
  · rw [f3, hY, ha 2 (by omega) (by omega) (by omega) (by omega)]
    refine w2.2.imp id fun z => ⟨z.1, ?_⟩
    obtain ⟨m, T, y, c, hy, hb⟩ := z.2.monoD hD
    exact ⟨m, T, y, c.ext (fun i hi => hG _ (by omega)), hy, hb⟩
  · rw [hG 0 (by omega), hG 71 (by omega), ha 22 (by omega) (by omega) (by omega) (by omega), f33]; exact w4
  · rw [hG _ (by omega), hG _ (by omega), ha 14 (by omega) (by omega) (by omega) (by omega), ha 15 (by omega) (by omega) (by omega) (by omega), ha 16 (by omega) (by omega) (by omega) (by omega)]; exact w5 t ht
  · rw [hG _ (by omega), hG _ (by omega), hG _ (by omega), hG _ (by omega), ha 17 (by omega) (by omega) (by omega) (by omega), ha 18 (by omega) (by omega) (by omega) (by omega), ha 19 (by omega) (by omega) (by omega) (by omega), ha 20 (by omega) (by omega) (by omega) (by omega)]; exact w6 q hq
  · rw [ha 7 (by omega) (by omega) (by omega) (by omega)]; exact w7.1 j hj
  · rw [ha 8 (by omega) (by omega) (by omega) (by omega)]; exact w7.2 j hj
end WTX
