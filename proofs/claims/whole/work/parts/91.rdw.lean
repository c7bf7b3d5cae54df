/-! PART 91: what is read is in order -/
def wfL (C : List Int32) (d : Nat) : Prop := dl (fun k => C.getD k 0) C.length = d ∧ ∀ k, k < C.length → (0 ≤ C.getD k 0 → C.getD k 0 < 10000 ∨ ∃ j : Nat, j < 3 ∧ C.getD k 0 = nI (10000 + j)) ∧ (C.getD k 0 < 0 → (C.getD k 0 = -10 → 1 ≤ dl (fun k => C.getD k 0) k) ∧ (¬ C.getD k 0 = -10 → 2 ≤ dl (fun k => C.getD k 0) k))
theorem gd_lt {C : List Int32} {x : Int32} {k : Nat} (h : k < C.length) : (C ++ [x]).getD k 0 = C.getD k 0 := by
  simp [List.getD, List.getElem?_append_left h]
theorem gd_eq {C : List Int32} {x : Int32} : (C ++ [x]).getD C.length 0 = x := by
  simp [List.getD]
theorem wfL.nil : wfL [] 0 := ⟨rfl, fun k hk => absurd hk (Nat.not_lt_zero k)⟩
theorem wfL.push {C : List Int32} {d d' : Nat} {x : Int32} (h : wfL C d) (hv : 0 ≤ x → (x < 10000 ∨ ∃ j : Nat, j < 3 ∧ x = nI (10000 + j)) ∧ d' = d + 1) (hn : x = -10 → 1 ≤ d ∧ d' = d) (hb : x < 0 → ¬ x = -10 → 2 ≤ d ∧ d' = d - 1) : wfL (C ++ [x]) d' := by
  have hd : ∀ k, k ≤ C.length → dl (fun k => (C ++ [x]).getD k 0) k = dl (fun k => C.getD k 0) k := dl_congr (n := C.length) (fun k hk => gd_lt hk)
  have hl : (C ++ [x]).length = C.length + 1 := by simp
  refine ⟨?_, fun k hk => ?_⟩
  · rw [hl, dl, hd C.length (Nat.le_refl _), gd_eq, h.1]
    by_cases e : x < 0
    · rw [if_pos e]
      by_cases e2 : x = -10
      · rw [if_pos e2]; exact (hn e2).2.symm
      · rw [if_neg e2]; exact (hb e e2).2.symm
    · rw [if_neg e]; exact (hv (Int32.not_lt.mp e)).2.symm
  · rw [hl] at hk
    rw [hd k (by omega)]
    by_cases e : k = C.length
    · subst e
      rw [gd_eq, h.1]
      exact ⟨fun z => (hv z).1, fun z => ⟨fun z2 => (hn z2).1, fun z2 => (hb z z2).1⟩⟩
    · rw [gd_lt (by omega)]
      exact h.2 k (by omega)
theorem wfL.T {C : List Int32} (h : wfL C 1) (hl : C.length ≤ 96) : wfT (fun k => C.getD k 0) C.length := ⟨hl, h.1, fun k hk => ⟨by have := dl_le (fun k => C.getD k 0) k; omega, h.2 k hk⟩⟩
section WF
variable {tt : Nat → Nat} {pc sg : Nat → Int32} {Z : Int32 → Prop} {nb nn : Nat} {pce : Nat → List Int32 → Nat → rR}
def WFX (Z : Int32 → Prop) (X : Nat → List Int32 → Nat → rR) : Prop := ∀ (k : Nat) (C : List Int32) (a d : Nat), wfL C d → (∀ x ∈ C, Z x) → ∀ k' C' a', X k C a = (k', some (C', a')) → wfL C' (d + 1) ∧ (∀ x ∈ C', Z x) ∧ C'.length + k ≤ C.length + k' ∧ k < k'
theorem mem_push {C : List Int32} {x : Int32} (h : ∀ y ∈ C, Z y) (hx : Z x) : ∀ y ∈ C ++ [x], Z y := fun y hy => by
  rcases List.mem_append.mp hy with q | q
  · exact h y q
  · rw [List.mem_singleton.mp q]; exact hx
theorem WFX.lp {one : Nat → List Int32 → Nat → rR} {r : Int32} (h : WFX Z one) (hs : ∀ k, tt k = 6 → sg k < 0 ∧ ¬ sg k = -10 ∧ Z (sg k)) : ∀ (j k : Nat) (C : List Int32) (a d : Nat), wfL C (d + 1) → (∀ x ∈ C, Z x) → ∀ k' C' a', lpR tt sg r one j k C a = (k', some (C', a')) → wfL C' (d + 1) ∧ (∀ x ∈ C', Z x) ∧ C'.length + k ≤ C.length + k' ∧ k ≤ k' := by
  intro j
  induction j with
  | zero =>
    intro k C a d hw hz k' C' a' q
    rw [lpR] at q
    cases q
    exact ⟨hw, hz, Nat.le_refl _, Nat.le_refl _⟩
  | succ j ih =>
    intro k C a d hw hz k' C' a' q
    by_cases e : tt k = 6 ∧ rkI (sg k) = r
    · rw [lpR, if_pos e] at q
      rcases hX : one (k + 1) C a with ⟨k2, _ | ⟨D2, a2⟩⟩
      · rw [hX] at q; cases q
      · rw [hX] at q
        dsimp only at q
        obtain ⟨s1, s2, s3⟩ := hs k e.1
        obtain ⟨p1, p2, p3, p4⟩ := h (k + 1) C a (d + 1) hw hz k2 D2 a2 hX
        have hw2 : wfL (D2 ++ [sg k]) (d + 1) := p1.push (fun z => absurd s1 (Int32.not_lt.mpr z)) (fun z => absurd z s2) (fun _ _ => ⟨by omega, by omega⟩)
        obtain ⟨q1, q2, q3, q4⟩ := ih k2 (D2 ++ [sg k]) a2 d hw2 (mem_push p2 s3) k' C' a' q
        have hl : (D2 ++ [sg k]).length = D2.length + 1 := by simp
        exact ⟨q1, q2, by omega, by omega⟩
    · rw [lpR, if_neg e] at q
      cases q
      exact ⟨hw, hz, Nat.le_refl _, Nat.le_refl _⟩
theorem WFX.lv (h : WFX Z pce) (hs : ∀ k, tt k = 6 → sg k < 0 ∧ ¬ sg k = -10 ∧ Z (sg k)) : ∀ d, WFX Z (fun k C a => lvR tt sg pce d k C a) := by
  intro d
  induction d with
  | zero => exact h
  | succ d ih =>
    intro k C a e hw hz k' C' a' q
    dsimp only at q
    rw [lvR] at q
    rcases hX : lvR tt sg pce d k C a with ⟨k2, _ | ⟨D2, a2⟩⟩
    · rw [hX] at q; cases q
    · rw [hX] at q
      dsimp only at q
      obtain ⟨p1, p2, p3, p4⟩ := ih k C a e hw hz k2 D2 a2 hX
      obtain ⟨q1, q2, q3, q4⟩ := ih.lp hs _ k2 D2 a2 e p1 p2 k' C' a' q
      exact ⟨q1, q2, by omega, by omega⟩
theorem WFX.all (hs : ∀ k, tt k = 6 → sg k < 0 ∧ ¬ sg k = -10 ∧ Z (sg k)) (hp : ∀ k, tt k = 1 → 0 ≤ pc k ∧ (pc k < 10000 ∨ ∃ j : Nat, j < 3 ∧ pc k = nI (10000 + j)) ∧ Z (pc k)) (h10 : Z (-10)) : ∀ f nb nn, WFX Z (fun k C a => pcR tt pc sg f nb nn k C a) := by
  intro f
  induction f with
  | zero =>
    intro nb nn k C a d hw hz k' C' a' q
    dsimp only at q
    rw [pcR] at q
    cases q
  | succ f ih =>
    intro nb nn k C a d hw hz k' C' a' q
    dsimp only at q
    rw [pcR] at q
    by_cases e1 : tt k = 1
    · rw [if_pos e1] at q
      cases q
      obtain ⟨s1, s2, s3⟩ := hp k e1
      refine ⟨hw.push (fun _ => ⟨s2, rfl⟩) (fun z => absurd s1 (by rw [z]; decide)) (fun z _ => absurd s1 (Int32.not_le.mpr z)), mem_push hz s3, ?_, by omega⟩
      simp
      omega
    · rw [if_neg e1] at q
      by_cases e3 : tt k = 3
      · rw [if_pos e3] at q
        by_cases n8 : nn < 8
        · rw [if_pos n8] at q
          rcases hX : pcR tt pc sg f nb (nn + 1) (k + 1) C a with ⟨k2, _ | ⟨D2, a2⟩⟩
          · rw [hX] at q; cases q
          · rw [hX] at q
            obtain ⟨p1, p2, p3, p4⟩ := ih nb (nn + 1) (k + 1) C a d hw hz k2 D2 a2 hX
            cases q
            refine ⟨p1.push (fun z => absurd z (by decide)) (fun _ => ⟨by omega, rfl⟩) (fun _ z => absurd rfl z), mem_push p2 h10, ?_, by omega⟩
            simp
            omega
        · rw [if_neg n8] at q; cases q
      · rw [if_neg e3] at q
        by_cases e4 : tt k = 4
        · rw [if_pos e4] at q
          by_cases b8 : nb < 8
          · rw [if_pos b8] at q
            rcases hX : lvR tt sg (fun k C a => pcR tt pc sg f (nb + 1) nn k C a) 5 (k + 1) C a with ⟨k2, _ | ⟨D2, a2⟩⟩
            · rw [hX] at q; cases q
            · rw [hX] at q
              dsimp only at q
              obtain ⟨p1, p2, p3, p4⟩ := (ih (nb + 1) nn).lv hs 5 (k + 1) C a d hw hz k2 D2 a2 hX
              by_cases e5 : tt k2 = 5
              · rw [if_pos e5] at q
                cases q
                exact ⟨p1, p2, by omega, by omega⟩
              · rw [if_neg e5] at q; cases q
          · rw [if_neg b8] at q; cases q
        · rw [if_neg e4] at q; cases q
end WF
/-! the tokens' own facts -/
section TK
variable {t : Nat → Int32} {n : Nat} {key : Int32}
theorem sg_ok {v : Int32} (h : ¬ sgI v = 0) : ((1 ≤ rkI (sgI v) ∧ rkI (sgI v) ≤ 5) ∧ ¬ sgI v = -10 ∧ ¬ sgI v = -11) ∧ sgI v < 0 ∧ ¬ sgI v = nI 10002 := by
  unfold sgI at h ⊢
  repeat' split
  all_goals first | decide | (exfalso; exact h (by simp_all))
theorem tK_zero (hn : n ≤ 96) : ∀ k, (∀ j, j < k → ¬ tK t n j = 0) → k ≤ tS t n k
  | 0, _ => Nat.zero_le _
  | k + 1, h => by
    have ih := tK_zero hn k (fun j hj => h j (by omega))
    have h1 := (tK0 t hn k (h k (by omega))).2
    have h2 := tES t n k
    omega
theorem tK_stay (hn : n ≤ 96) (k : Nat) (h : tK t n k = 0) : tK t n (k + 1) = 0 := by
  have hs := tS_le t hn k
  obtain ⟨c, hc⟩ := tK_ex t n k
  have e : tS t n k = n := by
    rcases tp_cases t c hs hn with z | z | z | z
    · exact z.1
    · rw [hc] at h
      rcases z.2.2.1 with q | q <;> omega
    · rw [hc] at h
      rcases z.2.2.2.1 with q | q <;> omega
    · rw [hc] at h
      omega
  have e2 : tE t n k = n := by
    rw [tE_eq, e, tpE, cI_t rfl]
  have e3 : tS t n (k + 1) = n := by
    have := tES t n k
    have := tS_le t hn (k + 1)
    omega
  obtain ⟨c', hc'⟩ := tK_ex t n (k + 1)
  rw [hc', e3, tpK, cI_t rfl]
theorem tK_97 (hn : n ≤ 96) : ∀ k, 97 ≤ k → tK t n k = 0 := by
  have ex : ∃ j, j ≤ 97 ∧ tK t n j = 0 := by
    refine Classical.byContradiction fun z => ?_
    have := tK_zero (t := t) hn 97 (fun j hj q => z ⟨j, by omega, q⟩)
    have := tS_le t hn 97
    omega
  obtain ⟨j, hj, h0⟩ := ex
  have : ∀ i, tK t n (j + i) = 0 := by
    intro i
    induction i with
    | zero => exact h0
    | succ i ih => exact tK_stay hn (j + i) ih
  intro k hk
  have := this (k - j)
  rwa [show j + (k - j) = k by omega] at this
end TK
