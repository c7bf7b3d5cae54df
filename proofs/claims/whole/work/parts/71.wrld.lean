/-! PART 71: the class and the model: the world between two calls; a pair of calls -/
/-- TEXTS of a KEY with two NAMES have no third one -/
def nM (N : Nat → Int32) : Prop := ∀ t, t < 14 → ¬ N (80 + 2 * t) / 1000 = 0 → ∀ k, k < 96 → k < (mh_rem (N (80 + 2 * t)) 1000).toNatClampNeg → ¬ N (108 + 96 * t + k) = nI 10002
theorem nM.same {N M : Nat → Int32} (h : nM N) (hq : ∀ q, 80 ≤ q → q < 1452 → M q = N q) : nM M := fun t ht h0 k h96 hk => by
  rw [hq _ (by omega) (by omega)] at h0 hk
  rw [hq _ (by omega) (by omega)]
  exact h t ht h0 k h96 hk
def cB (N : Nat → Int32) (y : Nat) : Prop := (∃ c, N 5 = nI c ∧ c ≤ 2010 * y) ∧ nM N
def wC (D : tDT) (V : Nat → Nat → Int32) (X : Nat → Option Nat) (N : Nat → Int32) : Prop := ∃ m T y, cR True D V X N m T y ∧ y ≤ 9999 ∧ cB N y
def oV (v : Int32) : Prop := v = -1000000005 ∨ (-99999 ≤ v ∧ v ≤ 99999)
def wS (o p : Nat → Int32) (so sz : Int32) (c : Nat → Int32) : Prop := o 1 = so ∧ (so = -1 ∨ so = 0 ∨ so = 1) ∧ (∃ n, n ≤ 24 ∧ o 2 = nI n ∧ sz = nI n) ∧ ∀ k, k < 24 → p k = c k ∧ oV (c k)
def wL (o st sh pl : Nat → Int32) (th a b : Int32) (c : Nat → Int32) : Prop := o 2 = th ∧ (th = 0 ∨ th = 1 ∨ th = 2 ∨ th = 3) ∧ (th = 1 → (∃ k, k < 6 ∧ st 0 = nI k ∧ a = nI k) ∧ b = k_worth st) ∧ (th = 2 → (∃ n, n ≤ 24 ∧ sh 2 = nI n ∧ a = nI n) ∧ ∀ k, k < 24 → pl k = c k) ∧ (th = 3 → o 3 = a)
/-- the class's rows and the model's -/
def wQ (D : tDT) (G : Nat → Nat → Int32) (Y : Nat → Nat → Option Nat) (A : Nat → Nat → Int32) (F : Nat → Int32) : Prop :=
  wC D (cV 1 G) (Y 0) (A 1) ∧
  (G 0 10 = F 3 ∧ (F 3 = 0 ∨ (F 3 = 1 ∧ wC D (cV 21 G) (Y 1) (A 2)))) ∧
  (∃ n, n ≤ 96 ∧ G 66 2 = nI n ∧ F 7 = nI n ∧ ∀ j, j < n → G 67 j = A 6 j ∧ ∃ c, c < 256 ∧ A 6 j = nI c) ∧
  (∃ n, n ≤ 60 ∧ G 0 9 = nI n ∧ F 33 = nI n ∧ ∀ j, j < n → G 71 j = A 22 j) ∧
  (∀ s, s < 4 → wS (G (73 + 2 * s)) (G (74 + 2 * s)) (A 14 s) (A 15 s) (fun k => A 16 (24 * s + k))) ∧
  (∀ q, q < 5 → wL (G (81 + 4 * q)) (G (82 + 4 * q)) (G (83 + 4 * q)) (G (84 + 4 * q)) (A 17 q) (A 18 q) (A 19 q) (fun k => A 20 (24 * q + k))) ∧
  ((∀ j, j < 11 → A 7 j = kb j) ∧ ∀ j, j < 4 → A 8 j = nI (ka j))
/-- the static table stands in a heap -/
def aB (E : mh_E) (R : Nat) (h : mh_H) : Prop := E.2.2.2.2.1 < R ∧ h.2 E.2.2.2.2.1 = some (.inr (.inr (6, ab)))
def hW (h : mh_H) (R : Nat) (G : Nat → Nat → Int32) (Y : Nat → Nat → Option Nat) (A : Nat → Nat → Int32) (L : Nat → Int64) (F : Nat → Int32) : mh_H := hA (hM h (R + 101) A L F) R G Y
def wR (E : mh_E) (R : Nat) (D : tDT) (h : mh_H) (G : Nat → Nat → Int32) (Y : Nat → Nat → Option Nat) (A : Nat → Nat → Int32) (F : Nat → Int32) : Prop := wQ D G Y A F ∧ tX D (R + 124) h ∧ aB E R h ∧ R + 124 ≤ h.1
/-- a call of the class, then the same of the model: they answer alike, and the world stands again -/
def pP (E : mh_E) (R : Nat) (y1 y2 : MethodName) (As : List Value) : Prop := ∀ (h : mh_H) (D : tDT) (G : Nat → Nat → Int32) (Y : Nat → Nat → Option Nat) (A : Nat → Nat → Int32) (L : Nat → Int64) (F : Nat → Int32), wR E R D h G Y A F → ∃ (d mc ms : Nat) (Q : Option Value → mh_H → Prop), mh_M E d mc ms y1 (.ref R :: As) (hW h R G Y A L F) Q ∧ d ≤ 200 ∧ mc ≤ 3 ∧ ms ≤ 300 ∧ ∀ r h', Q r h' → ∃ x : Int32, r = some (.int x) ∧ ((∀ q, q < R → h'.2 q = h.2 q) ∧ ∃ fs, h'.2 (R + 101) = some (.inr (.inl (10, fs)))) ∧ ∃ (d2 : Nat) (Q2 : Option Value → mh_H → Prop), mh_M E d2 0 0 y2 (.ref (R + 101) :: As) h' Q2 ∧ d2 ≤ 200 ∧ ∀ r2 h'', Q2 r2 h'' → r2 = some (.int x) ∧ ∃ (h1 : mh_H) (D' : tDT) (G' : Nat → Nat → Int32) (Y' : Nat → Nat → Option Nat) (A' : Nat → Nat → Int32) (L' : Nat → Int64) (F' : Nat → Int32), h'' = hW h1 R G' Y' A' L' F' ∧ wR E R D' h1 G' Y' A' F' ∧ h1.1 ≤ h.1 + 3 ∧ ∀ q, q < R → h1.2 q = h.2 q
abbrev tKK : Type := (Nat → Nat → Int32) → (Nat → Nat → Option Nat) → Prop
/-- heaps that are the same below the TEXTS, but for the class's own block -/
def eY (R : Nat) (h h1 : mh_H) : Prop := h1.1 = h.1 ∧ ∀ q, q < R + 124 → (q < R ∨ R + 101 ≤ q) → h1.2 q = h.2 q
theorem eY.rf {R : Nat} {h : mh_H} : eY R h h := ⟨rfl, fun _ _ _ => rfl⟩
theorem eY.trans {R : Nat} {h1 h2 h3 : mh_H} (a : eY R h1 h2) (b : eY R h2 h3) : eY R h1 h3 := ⟨b.1.trans a.1, fun q h1 h2 => (b.2 q h1 h2).trans (a.2 q h1 h2)⟩
theorem eY.x {R : Nat} {h h1 : mh_H} {G : Nat → Nat → Int32} {Y : Nat → Nat → Option Nat} (hx : eX (R + 124) (hA h R G Y) h1) : eY R h h1 := ⟨hx.1, fun q h1 h2 => (hx.2 q h1).trans (hA_out h2)⟩
def pK (R : Nat) (D : tDT) (h0 : mh_H) (x : Int32) (K : tKK) (r : Option Value) (h' : mh_H) : Prop := r = some (.int x) ∧ ∃ h1 G' Y', h' = hA h1 R G' Y' ∧ eY R h0 h1 ∧ tX D (R + 124) h1 ∧ K G' Y'
theorem pK.mk {R : Nat} {D : tDT} {h0 h1 : mh_H} {x x' : Int32} {K : tKK} {G' : Nat → Nat → Int32} {Y' : Nat → Nat → Option Nat} (e : x' = x) (hx : eY R h0 h1) (ht : tX D (R + 124) h1) (k : K G' Y') : pK R D h0 x K (some (.int x')) (hA h1 R G' Y') := ⟨by rw [e], h1, G', Y', rfl, hx, ht, k⟩
/-- the class's half -/
def cK (E : mh_E) (R : Nat) (D : tDT) (y : MethodName) (As : List Value) (h0 : mh_H) (G : Nat → Nat → Int32) (Y : Nat → Nat → Option Nat) (x : Int32) (K : tKK) : Prop := mh_M E 30 0 0 y (.ref R :: As) (hA h0 R G Y) (pK R D h0 x K)
/-- the model's half -/
def mK (E : mh_E) (R : Nat) (D : tDT) (y : MethodName) (As : List Value) (A : Nat → Nat → Int32) (L : Nat → Int64) (F : Nat → Int32) (x : Int32) (K : tKK) : Prop := ∃ d, d ≤ 200 ∧ ∀ h2, mh_M E d 0 0 y (.ref (R + 101) :: As) (hM h2 (R + 101) A L F) (fun r h' => r = some (.int x) ∧ ∃ A' L' F', h' = hM h2 (R + 101) A' L' F' ∧ ∀ G' Y', K G' Y' → wQ D G' Y' A' F')
theorem tX_up {D : tDT} {lo : Nat} {h h' : mh_H} (hT : tX D lo h) (h1 : h'.1 = h.1) (h2 : ∀ q, lo ≤ q → h'.2 q = h.2 q) : tX D lo h' := fun a d hD => by
  obtain ⟨q1, q2, q3, q4, ht, g, q5, q6, q7⟩ := hT a d hD
  exact ⟨q1, by omega, q3, q4, ht, g, by rw [h2 _ (by omega)]; exact q5, by rw [h2 _ (by omega)]; exact q6, by rw [h2 _ (by omega)]; exact q7⟩
theorem pP.mk {E : mh_E} {R : Nat} {y1 y2 : MethodName} {As : List Value} (H : ∀ (h0 : mh_H) (D : tDT) (G : Nat → Nat → Int32) (Y : Nat → Nat → Option Nat) (A : Nat → Nat → Int32) (L : Nat → Int64) (F : Nat → Int32), wQ D G Y A F → tX D (R + 124) h0 → aB E R h0 → ∃ (x : Int32) (K : tKK), cK E R D y1 As h0 G Y x K ∧ mK E R D y2 As A L F x K) : pP E R y1 y2 As := by
  intro h D G Y A L F ⟨hQ, hT, hB, hz⟩
  have hT0 : tX D (R + 124) (hM h (R + 101) A L F) := tX_up hT rfl (fun q hq => by rw [hM, ov_out (by omega)])
  have hB0 : aB E R (hM h (R + 101) A L F) := ⟨hB.1, by rw [hM, ov_out (by have := hB.1; omega)]; exact hB.2⟩
  obtain ⟨x, K, hc, d2, hd2, hm⟩ := H _ D G Y A L F hQ hT0 hB0
  refine ⟨30, 0, 0, _, hc, by decide, by decide, by decide, ?_⟩
  rintro _ _ ⟨rfl, h1, G', Y', rfl, x1, t1, k1⟩
  refine ⟨x, rfl, ⟨fun q hq => ?_, _, (hA_out (Or.inr (Nat.le_refl _))).trans ((x1.2 _ (by omega) (Or.inr (Nat.le_refl _))).trans hM_0)⟩, d2, (fun r h'' => r = some (.int x) ∧ ∃ A' L' F', h'' = hM (hA h1 R G' Y') (R + 101) A' L' F' ∧ ∀ G' Y', K G' Y' → wQ D G' Y' A' F'), ?_, hd2, ?_⟩
  · rw [hA_out (Or.inl hq), x1.2 q (by omega) (Or.inl hq), hM, ov_out (by omega)]
  · have e : hA h1 R G' Y' = hM (hA h1 R G' Y') (R + 101) A L F := by
      rw [← hA_hM]
      congr 1
      exact (ov_id fun i hi => by rw [x1.2 _ (by omega) (by omega), hM, ov_in hi]).symm
    have := hm (hA h1 R G' Y')
    rw [← e] at this
    exact this
  · rintro _ _ ⟨rfl, A', L', F', rfl, hq⟩
    refine ⟨rfl, h1, D, G', Y', A', L', F', by rw [hW, hA_hM], ⟨hq G' Y' k1, t1, ⟨hB.1, ?_⟩, ?_⟩, ?_, fun q hq => ?_⟩
    · rw [x1.2 _ (by have := hB.1; omega) (Or.inl hB.1)]; exact hB0.2
    · rw [x1.1]; exact hz
    · rw [x1.1]; exact Nat.le_add_right _ _
    · rw [x1.2 q (by omega) (Or.inl hq), hM, ov_out (by omega)]
section ON
variable {E : mh_E} {h : mh_H} {R d mc ms : Nat} {y : MethodName} {As : List Value} {G : Nat → Nat → Int32} {Y : Nat → Nat → Option Nat} {Q : Option Value → mh_H → Prop}
theorem on_n (hM : mh_M E d mc ms y As (hC (hA h R G Y) (R + 1) (cV 1 G) (Y 0)) Q) : mh_M E d mc ms y As (hA h R G Y) Q := by rw [hA_now] at hM; exact hM
theorem on_i (hM : mh_M E d mc ms y As (hC (hA h R G Y) (R + 21) (cV 21 G) (Y 1)) Q) : mh_M E d mc ms y As (hA h R G Y) Q := by rw [hA_img] at hM; exact hM
theorem on_m (hM : mh_M E d mc ms y As (hC (hA h R G Y) (R + 41) (cV 41 G) (Y 2)) Q) : mh_M E d mc ms y As (hA h R G Y) Q := by rw [hA_mnd] at hM; exact hM
end ON
/-- rows that are only written on may differ -/
def aS (A A' : Nat → Nat → Int32) : Prop := ∀ r, (r = 2 ∨ r = 6 ∨ r = 7 ∨ r = 8 ∨ (14 ≤ r ∧ r ≤ 20) ∨ r = 22) → A' r = A r
/-- only now, and rows that are only written on, have changed -/
def kN (D : tDT) (G : Nat → Nat → Int32) (Y : Nat → Nat → Option Nat) (N : Nat → Int32) : tKK := fun G' Y' => wC D (cV 1 G') (Y' 0) N ∧ (∀ i, (i = 0 ∨ (21 ≤ i ∧ i < 41) ∨ i = 67 ∨ (69 ≤ i ∧ i ≠ 72)) → G' i = G i) ∧ G' 66 2 = G 66 2 ∧ Y' 1 = Y 1
section WQ
variable {D : tDT} {G G' : Nat → Nat → Int32} {Y Y' : Nat → Nat → Option Nat} {A A' : Nat → Nat → Int32} {F F' N : Nat → Int32} {p : Prop} {V V' : Nat → Nat → Int32} {X : Nat → Option Nat} {m T y : Nat}
theorem wQ.now (h : wQ D G Y A F) (hk : kN D G Y N G' Y') (h1 : A' 1 = N) (hA : aS A A') (f3 : F' 3 = F 3) (f7 : F' 7 = F 7) (f33 : F' 33 = F 33) : wQ D G' Y' A' F' := by
  obtain ⟨-, w2, w3, w4, w5, w6, w7⟩ := h
  obtain ⟨k1, k2, k3, k4⟩ := hk
  refine ⟨by rw [h1]; exact k1, ⟨by rw [k2 0 (by omega), f3]; exact w2.1, ?_⟩, ?_, ?_, fun s hs => ?_, fun q hq => ?_, fun j hj => ?_, fun j hj => ?_⟩
  · rw [f3, k4, hA 2 (by omega)]
    refine w2.2.imp id fun z => ⟨z.1, ?_⟩
    obtain ⟨m, T, y, c, hy, hb⟩ := z.2
    exact ⟨m, T, y, c.copy ⟨fun j _ _ => by rw [cV, k2 _ (by omega)]; rfl, fun p _ => ⟨by rw [cV, k2 _ (by omega)]; rfl, by rw [cV, k2 _ (by omega)]; rfl⟩, fun q _ => by rw [cV, k2 _ (by omega)]; rfl, fun r _ => by rw [cV, k2 _ (by omega)]; rfl, fun i hi => by rw [cV, k2 _ (by have := c.1.2.2; omega)]; rfl, by rw [cV, k2 _ (by omega)]; rfl, fun k _ => by rw [cV, k2 _ (by omega)]; rfl, fun _ _ => rfl⟩, hy, hb⟩
  · obtain ⟨n, e1, e2, e3, e4⟩ := w3
    exact ⟨n, e1, by rw [k3]; exact e2, by rw [f7]; exact e3, fun j hj => by rw [k2 67 (by omega), hA 6 (by omega)]; exact e4 j hj⟩
  · obtain ⟨n, e1, e2, e3, e4⟩ := w4
    exact ⟨n, e1, by rw [k2 0 (by omega)]; exact e2, by rw [f33]; exact e3, fun j hj => by rw [k2 71 (by omega), hA 22 (by omega)]; exact e4 j hj⟩
  · rw [k2 _ (by omega), k2 _ (by omega), hA 14 (by omega), hA 15 (by omega), hA 16 (by omega)]; exact w5 s hs
  · rw [k2 _ (by omega), k2 _ (by omega), k2 _ (by omega), k2 _ (by omega), hA 17 (by omega), hA 18 (by omega), hA 19 (by omega), hA 20 (by omega)]; exact w6 q hq
  · rw [hA 7 (by omega)]; exact w7.1 j hj
  · rw [hA 8 (by omega)]; exact w7.2 j hj
theorem kN.rf (h : wQ D G Y A F) : kN D G Y (A 1) G Y := ⟨h.1, fun _ _ => rfl, rfl, rfl⟩
/-- numbers of a City are only asked for at their places -/
theorem cR.ext (h : cR p D V X N m T y) (hv : ∀ i, i < 20 → V' i = V i) : cR p D V' X N m T y := h.copy ⟨fun j _ _ => by rw [hv 0 (by decide)], fun p _ => ⟨by rw [hv 2 (by decide)], by rw [hv 3 (by decide)]⟩, fun q _ => by rw [hv 4 (by decide)], fun r _ => by rw [hv 5 (by decide)], fun i hi => hv _ (by have := h.1.2.2; omega), by rw [hv 7 (by decide)], fun k _ => by rw [hv 9 (by decide)], fun _ _ => rfl⟩
theorem cV_in {o j : Nat} (hj : j < 20) : cV o (cG o 20 V G) j = V j := cG_in hj
theorem cV_o {o c : Nat} (h : o + 20 ≤ c ∨ c + 20 ≤ o) {j : Nat} (hj : j < 20) : cV o (cG c 20 V G) j = cV o G j := cG_out (by omega)
theorem kN.nw (hc : cR True D V X N m T y) (hy : y ≤ 9999) (hb : cB N y) : kN D G Y N (cG 1 20 V G) (va_up Y 0 X) := ⟨⟨m, T, y, by rw [va_up_self]; exact hc.ext (fun i hi => cV_in hi), hy, hb⟩, fun i hi => cG_out (by omega), by rw [cG_out (by omega)], va_up_ne _ _ (by decide)⟩
theorem aS.rf : aS A A := fun _ _ => rfl
theorem aS.u1 {f : Nat → Int32} : aS A (va_up A 1 f) := fun r hr => va_up_ne _ _ (by omega)
theorem aS.scc {f g : Nat → Int32} (h : aS A A') : aS A (sc A' f g) := fun r hr => by rw [sc_ne (by omega) (by omega)]; exact h r hr
theorem aS.tmm {f g M : Nat → Int32} : aS A (tm A M f g) := fun r hr => by rw [tm, sc_ne (by omega) (by omega), va_up_ne _ _ (by omega), th_ne (by omega)]
end WQ
section HX
variable {h h1 : mh_H} {R : Nat} {D : tDT} {G : Nat → Nat → Int32} {Y : Nat → Nat → Option Nat} {V : Nat → Nat → Int32} {X : Nat → Option Nat}
theorem hA_nowX (hx : eX (R + 124) (hA h R G Y) h1) : hC h1 (R + 1) V X = hA h1 R (cG 1 20 V G) (va_up Y 0 X) := by
  have := hA_nowP (h := h1) (R := R) (G := G) (Y := Y) (V := V) (X := X)
  rw [hA_self hx (by omega)] at this
  exact this
theorem hA_mndX (hx : eX (R + 124) (hA h R G Y) h1) : hC h1 (R + 41) V X = hA h1 R (cG 41 20 V G) (va_up Y 2 X) := by
  have := hA_mndP (h := h1) (R := R) (G := G) (Y := Y) (V := V) (X := X)
  rw [hA_self hx (by omega)] at this
  exact this
theorem hA_nowI (hx : eX (R + 124) (hA h R G Y) h1) : hC h1 (R + 1) (cV 1 G) (Y 0) = hA h1 R G Y := by
  have := hA_now (h := h1) (R := R) (G := G) (Y := Y)
  rw [hA_self hx (by omega)] at this
  rw [this, hA_self hx (by omega)]
theorem tX_hA (hT : tX D (R + 124) h) : tX D (R + 124) (hA h R G Y) := tX_up hT rfl (fun q hq => hA_out (by omega))
theorem cV_up {o j : Nat} {f : Nat → Int32} : cV o (va_up G (o + j) f) = va_up (cV o G) j f := funext fun i => by
  by_cases e : i = j
  · subst e; rw [cV, va_up_self, va_up_self]
  · rw [cV, va_up_ne _ _ (by omega), va_up_ne _ _ e]; rfl
theorem hA_nsK {i : Nat} (hi : i < 10) : (hA h R G Y).2 (R + 1 + 10 + i) = some (k_St (G (11 + i))) := hA_ns hi
theorem hA_pnsK {i : Nat} {g : Nat → Int32} (hi : i < 10) : mh_put (hA h R G Y) (R + 1 + 10 + i) (k_St g) = hA h R (va_up G (11 + i) g) Y := by
  rw [show R + 1 + 10 + i = R + (11 + i) by omega]
  refine hA_put (by omega) ?_
  rw [show 11 + i = 1 + (10 + i) by omega, kA_n (by omega), kC_s hi, cV, va_up_self]
end HX
