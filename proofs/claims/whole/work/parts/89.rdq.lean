/-! PART 89: levels, pieces, a whole E; its code is a TEXT's -/
theorem i_lts {k : Nat} (hk : k + 1 < 2 ^ 31) (z : Int32) : nI k < z ↔ nI (k + 1) ≤ z := by
  rw [Int32.lt_iff_toInt_lt, Int32.le_iff_toInt_le, nI_toInt (by omega), nI_toInt hk]
  omega
section SIQ
variable {tt : Nat → Nat} {pc sg : Nat → Int32} {nb nn : Nat} {pce : Nat → List Int32 → Nat → rR}
theorem SimL.lv {d : Nat} (hd : d < 5) (h : SimL tt pc sg (nI (6 - d)) (fun k C a => lvR tt sg pce d k C a) nb nn) (hsg : ∀ k, tt k = 6 → (1 ≤ rkI (sg k) ∧ rkI (sg k) ≤ 5) ∧ ¬ sg k = -10 ∧ ¬ sg k = -11) (htz : ∀ k, 97 ≤ k → tt k = 0) : SimL tt pc sg (nI (5 - d)) (fun k C a => lvR tt sg pce (d + 1) k C a) nb nn := by
  intro k C a H te hst hcn hte hk
  have hle : nI (5 - d) ≤ nI (6 - d) := nI_le (by omega) (by omega)
  obtain ⟨h1, h2⟩ := h k C a H te (hst.mono hle) hcn (fun z => hte (Int32.le_trans hle z)) hk
  have hr1 : ∀ z : Int32, nI (5 - d) < z ↔ nI (6 - d) ≤ z := fun z => by
    have := i_lts (k := 5 - d) (by omega) z
    rwa [show 5 - d + 1 = 6 - d by omega] at this
  dsimp only at h1 h2 ⊢
  rcases hX : lvR tt sg pce d k C a with ⟨k1, _ | ⟨C1, a1⟩⟩
  · obtain ⟨p1, Cx, ax, p2⟩ := h2 k1 hX
    have e : lvR tt sg pce (d + 1) k C a = (k1, none) := by rw [lvR, hX]
    refine ⟨fun k' C' a' q => (by rw [e] at q; cases q), fun k' q => ?_⟩
    rw [e] at q
    cases q
    exact ⟨p1, Cx, ax, p2⟩
  · obtain ⟨p1, C'', H'', te1, p2, p3, p4, p5, p6⟩ := h1 k1 C1 a1 hX
    have e : lvR tt sg pce (d + 1) k C a = lpR tt sg (nI (5 - d)) (fun k C a => lvR tt sg pce d k C a) (if d = 2 then 1 else 96) k1 C1 a1 := by rw [lvR, hX]
    have e3 : nI (5 - d) = 3 ↔ d = 2 := by
      have := nI_eq (a := 5 - d) (b := 3) (by omega) (by decide)
      exact this.trans (by omega)
    obtain ⟨q1, q2⟩ := SimL.lp hr1 h hsg htz hst hcn te (if d = 2 then 1 else 96) k1 C1 a1 C'' H'' te1 (by omega) (fun q hq => p2 q (Int32.le_trans hq hle)) p3 (fun z => p4 (Int32.lt_of_lt_of_le z hle)) p5 (fun z => Or.inl ⟨if_pos (e3.mp z), by
        rw [p4 (Int32.lt_of_lt_of_le (show (3 : Int32) < 4 by decide) (show nI 4 ≤ nI (6 - d) from by rw [e3.mp z]; exact Int32.le_refl _))]
        exact hte (by rw [z]; exact Int32.le_refl _)⟩) (fun z => by rw [if_neg (fun q => z (e3.mpr q))]; omega)
    refine ⟨fun k' C' a' q => ?_, fun k' q => ?_⟩
    · rw [e] at q
      obtain ⟨r1, D'', K'', te', r2, r3, r4, r5, r6⟩ := q1 k' C' a' q
      refine ⟨by omega, D'', K'', te', r2, r3, r4, r5, fun F => ?_⟩
      rw [show F + (k' - k) = (F + (k' - k1)) + (k1 - k) by omega, p6, r6]
    · rw [e] at q
      obtain ⟨r1, Cx, ax, r2⟩ := q2 k' q
      refine ⟨by omega, Cx, ax, fun F => ?_⟩
      rw [show F + 1 + (k' - k) = (F + 1 + (k' - k1)) + (k1 - k) by omega, p6, r2]
theorem SimP.E (h : SimP tt pc sg pce nb nn) (hsg : ∀ k, tt k = 6 → (1 ≤ rkI (sg k) ∧ rkI (sg k) ≤ 5) ∧ ¬ sg k = -10 ∧ ¬ sg k = -11) (htz : ∀ k, 97 ≤ k → tt k = 0) : SimL tt pc sg 1 (fun k C a => lvR tt sg pce 5 k C a) nb nn := by
  have h0 : SimL tt pc sg (nI 6) (fun k C a => lvR tt sg pce 0 k C a) nb nn := h.L (fun k hk => (hsg k hk).1)
  exact ((((h0.lv (d := 0) (by decide) hsg htz).lv (d := 1) (by decide) hsg htz).lv (d := 2) (by decide) hsg htz).lv (d := 3) (by decide) hsg htz).lv (d := 4) (by decide) hsg htz
theorem SimP.all (hsg : ∀ k, tt k = 6 → (1 ≤ rkI (sg k) ∧ rkI (sg k) ≤ 5) ∧ ¬ sg k = -10 ∧ ¬ sg k = -11) (htz : ∀ k, 97 ≤ k → tt k = 0) : ∀ f nb nn, nb ≤ 8 → nn ≤ 8 → 17 ≤ f + nb + nn → SimP tt pc sg (fun k C a => pcR tt pc sg f nb nn k C a) nb nn := by
  intro f
  induction f with
  | zero => intro nb nn h1 h2 h3; omega
  | succ f ih =>
    intro nb nn h1 h2 h3 k C a H te hcn hk
    dsimp only
    have fail0 : (¬ (tt k = 3 ∧ nn < 8)) → (¬ (tt k = 4 ∧ nb < 8)) → (¬ tt k = 1) → ∀ F, rm tt pc sg (F + 1 + (k - k)) true nb nn k C H a te = some (false, k, [], 0) := fun z1 z2 z3 F => by
      rw [Nat.sub_self, Nat.add_zero, rm, if_neg z1, if_neg z2, if_neg z3]
    by_cases e1 : tt k = 1
    · have e : pcR tt pc sg (f + 1) nb nn k C a = (k + 1, some (C ++ [pc k], a + 1)) := by rw [pcR, if_pos e1]
      refine ⟨fun k' C' a' q => ?_, fun k' q => (by rw [e] at q; cases q)⟩
      rw [e] at q
      cases q
      refine ⟨by omega, te, fun _ _ => rfl, fun F => ?_⟩
      rw [show F + (k + 1 - k) = F + 1 by omega, rm, if_neg (by rw [e1]; exact fun z => absurd z.1 (by decide)), if_neg (by rw [e1]; exact fun z => absurd z.1 (by decide)), if_pos e1]
    · by_cases e3 : tt k = 3
      · by_cases n8 : nn < 8
        · have hstep : ∀ F, rm tt pc sg (F + 1) true nb nn k C H a te = rm tt pc sg F true nb (cnO (-10) (-10 :: H)) (k + 1) C (-10 :: H) a te := fun F => by rw [rm, if_pos ⟨e3, n8⟩]
          have hc1 : cnO (-10) (-10 :: H) = nn + 1 := by rw [cnO, if_pos rfl, hcn]
          obtain ⟨o1, o2⟩ := ih nb (nn + 1) h1 (by omega) (by omega) (k + 1) C a (-10 :: H) te hc1 (by omega)
          dsimp only at o1 o2
          have e : pcR tt pc sg (f + 1) nb nn k C a = (match pcR tt pc sg f nb (nn + 1) (k + 1) C a with
            | (k', none) => (k', none)
            | (k', some (C', a')) => (k', some (C' ++ [-10], a'))) := by
            rw [pcR, if_neg e1, if_pos e3, if_pos n8]
            rfl
          rcases hX : pcR tt pc sg f nb (nn + 1) (k + 1) C a with ⟨k2, _ | ⟨D2, a2⟩⟩
          · rw [hX] at e
            obtain ⟨p1, Cx, ax, p2⟩ := o2 k2 hX
            refine ⟨fun k' C' a' q => (by rw [e] at q; cases q), fun k' q => ?_⟩
            rw [e] at q
            cases q
            refine ⟨by omega, Cx, ax, fun F => ?_⟩
            rw [show F + 1 + (k2 - k) = (F + 1 + (k2 - (k + 1))) + 1 by omega, hstep, hc1, p2]
          · rw [hX] at e
            obtain ⟨p1, te', p2, p3⟩ := o1 k2 D2 a2 hX
            refine ⟨fun k' C' a' q => ?_, fun k' q => (by rw [e] at q; cases q)⟩
            rw [e] at q
            cases q
            refine ⟨by omega, te', p2, fun F => ?_⟩
            have hpop : setl 6 (-10 :: H) D2 = setl 6 H (D2 ++ [-10]) := by rw [setl, if_neg (by decide)]
            rw [show F + (k2 - k) = (F + (k2 - (k + 1))) + 1 by omega, hstep, hc1, p3, hpop]
        · have e : pcR tt pc sg (f + 1) nb nn k C a = (k, none) := by rw [pcR, if_neg e1, if_pos e3, if_neg n8]
          refine ⟨fun k' C' a' q => (by rw [e] at q; cases q), fun k' q => ?_⟩
          rw [e] at q
          cases q
          exact ⟨Nat.le_refl k, [], 0, fail0 (fun z => n8 z.2) (fun z => by rw [e3] at z; exact absurd z.1 (by decide)) e1⟩
      · by_cases e4 : tt k = 4
        · by_cases b8 : nb < 8
          · have hstep : ∀ F, rm tt pc sg (F + 1) true nb nn k C H a te = rm tt pc sg F true (nb + 1) (cnO (-10) (-11 :: H)) (k + 1) C (-11 :: H) a (fun j => if j = nb + 1 then false else te j) := fun F => by rw [rm, if_neg (fun z => e3 z.1), if_pos ⟨e4, b8⟩]
            have hc1 : cnO (-10) (-11 :: H) = nn := by rw [cnO, if_neg (by decide), hcn]; rfl
            have hL := SimP.E (ih (nb + 1) nn (by omega) h2 (by omega)) hsg htz
            obtain ⟨o1, o2⟩ := hL (k + 1) C a (-11 :: H) (fun j => if j = nb + 1 then false else te j) (Or.inl rfl) hc1 (fun _ => if_pos rfl) (by omega)
            dsimp only at o1 o2
            have e : pcR tt pc sg (f + 1) nb nn k C a = (match lvR tt sg (fun k C a => pcR tt pc sg f (nb + 1) nn k C a) 5 (k + 1) C a with
              | (k', none) => (k', none)
              | (k', some (C', a')) => if tt k' = 5 then (k' + 1, some (C', a')) else (k', none)) := by
              rw [pcR, if_neg e1, if_neg e3, if_pos e4, if_pos b8]
              rfl
            rcases hX : lvR tt sg (fun k C a => pcR tt pc sg f (nb + 1) nn k C a) 5 (k + 1) C a with ⟨k2, _ | ⟨D2, a2⟩⟩
            · rw [hX] at e
              obtain ⟨p1, Cx, ax, p2⟩ := o2 k2 hX
              refine ⟨fun k' C' a' q => (by rw [e] at q; cases q), fun k' q => ?_⟩
              rw [e] at q
              cases q
              refine ⟨by omega, Cx, ax, fun F => ?_⟩
              rw [show F + 1 + (k2 - k) = (F + 1 + (k2 - (k + 1))) + 1 by omega, hstep, hc1, p2]
            · rw [hX] at e
              dsimp only at e
              obtain ⟨p1, C'', H'', te', p2, p3, p4, p5, p6⟩ := o1 k2 D2 a2 hX
              have hs0 : setl 0 H'' C'' = (-11 :: H, D2) := by rw [p2 0 (by decide), setl, if_pos (Or.inl rfl)]
              by_cases e5 : tt k2 = 5
              · rw [if_pos e5] at e
                refine ⟨fun k' C' a' q => ?_, fun k' q => (by rw [e] at q; cases q)⟩
                rw [e] at q
                cases q
                refine ⟨by omega, te', fun j hj => by rw [p3 j (by omega), if_neg (by omega)], fun F => ?_⟩
                rw [show F + (k2 + 1 - k) = (F + 1 + (k2 - (k + 1))) + 1 by omega, hstep, hc1, p6, rm, if_neg (by rw [e5]; decide), if_pos ⟨e5, by omega⟩, hs0]
                rfl
              · rw [if_neg e5] at e
                refine ⟨fun k' C' a' q => (by rw [e] at q; cases q), fun k' q => ?_⟩
                rw [e] at q
                cases q
                refine ⟨by omega, ?_⟩
                by_cases e0 : tt k2 = 0
                · refine ⟨(setl 0 H'' C'').2, a2, fun F => ?_⟩
                  rw [show F + 1 + (k2 - k) = (F + 1 + (k2 - (k + 1))) + 1 by omega, hstep, hc1, p6, rm, if_pos e0, decide_eq_false (by omega)]
                · refine ⟨[], 0, fun F => ?_⟩
                  rw [show F + 1 + (k2 - k) = (F + 1 + (k2 - (k + 1))) + 1 by omega, hstep, hc1, p6, rm, if_neg e0, if_neg (fun z => e5 z.1), if_neg (fun z => p5 ⟨z.1, (hsg k2 z.1).1.1, z.2⟩)]
          · have e : pcR tt pc sg (f + 1) nb nn k C a = (k, none) := by rw [pcR, if_neg e1, if_neg e3, if_pos e4, if_neg b8]
            refine ⟨fun k' C' a' q => (by rw [e] at q; cases q), fun k' q => ?_⟩
            rw [e] at q
            cases q
            exact ⟨Nat.le_refl k, [], 0, fail0 (fun z => e3 z.1) (fun z => b8 z.2) e1⟩
        · have e : pcR tt pc sg (f + 1) nb nn k C a = (k, none) := by rw [pcR, if_neg e1, if_neg e3, if_neg e4]
          refine ⟨fun k' C' a' q => (by rw [e] at q; cases q), fun k' q => ?_⟩
          rw [e] at q
          cases q
          exact ⟨Nat.le_refl k, [], 0, fail0 (fun z => e3 z.1) (fun z => e4 z.1) e1⟩
/-- a whole E: behind the key -/
theorem rm_top (hsg : ∀ k, tt k = 6 → (1 ≤ rkI (sg k) ∧ rkI (sg k) ≤ 5) ∧ ¬ sg k = -10 ∧ ¬ sg k = -11) (htz : ∀ k, 97 ≤ k → tt k = 0) : (∀ k' C' a', lvR tt sg (fun k C a => pcR tt pc sg 17 0 0 k C a) 5 1 [] 0 = (k', some (C', a')) → (tt k' = 0 → ∀ F, rm tt pc sg (F + 1 + (k' - 1)) true 0 0 1 [] [] 0 (fun _ => false) = some (true, k', C', a')) ∧ (¬ tt k' = 0 → ∃ Cx ax, ∀ F, rm tt pc sg (F + 1 + (k' - 1)) true 0 0 1 [] [] 0 (fun _ => false) = some (false, k', Cx, ax))) ∧ ∀ k', lvR tt sg (fun k C a => pcR tt pc sg 17 0 0 k C a) 5 1 [] 0 = (k', none) → ∃ Cx ax, ∀ F, rm tt pc sg (F + 1 + (k' - 1)) true 0 0 1 [] [] 0 (fun _ => false) = some (false, k', Cx, ax) := by
  have hL := SimP.E (SimP.all (pc := pc) hsg htz 17 0 0 (by decide) (by decide) (by decide)) hsg htz
  obtain ⟨o1, o2⟩ := hL 1 [] 0 [] (fun _ => false) trivial rfl (fun _ => rfl) (Nat.le_refl 1)
  dsimp only at o1 o2
  refine ⟨fun k' C' a' q => ?_, fun k' q => (o2 k' q).2⟩
  obtain ⟨p1, C'', H'', te', p2, p3, p4, p5, p6⟩ := o1 k' C' a' q
  have hs0 : setl 0 H'' C'' = ([], C') := p2 0 (by decide)
  refine ⟨fun e0 F => ?_, fun e0 => ⟨[], 0, fun F => ?_⟩⟩
  · rw [p6, rm, if_pos e0, hs0]
    rfl
  · rw [p6, rm, if_neg e0, if_neg (fun z => absurd z.2 (by decide)), if_neg (fun z => p5 ⟨z.1, (hsg k' z.1).1.1, z.2⟩)]
end SIQ
