/-! PART 05: fields, arrays, new cells, calls, ends -/
def mh_CL (ci : Nat) (C : String) (T : u_T) (N : Nat) (ty : Nat → FieldType) : Prop := vwCl[ci]? = some (C, T, N) ∧ (∀ k, k < N → parseFieldDescriptor (T k).2.2.1 = some (ty k)) ∧ (∀ a, a < N → ∀ b, b < N → a ≠ b → (T a).2.1 ≠ (T b).2.1) ∧ ∀ w ∈ u_ws C T N, w ∈ lw_tbl
theorem mh_tb_lay (C : String) (T : u_T) (k : Nat) : mh_tb (u_lay C T k) = true := by
  unfold u_lay
  split <;> rfl
theorem mh_lays {C : String} {T : u_T} {N ci : Nat} {ty : Nat → FieldType} (hC : mh_CL ci C T N ty) {s : State} (hT : mh_T s) {args : Array Value} : ∀ w ∈ u_ws C T N, w.before args s = true := by
  intro w hw
  refine hT.use (hC.2.2.2 w hw) ?_
  obtain ⟨k, -, rfl⟩ := List.mem_map.mp hw
  exact mh_tb_lay C T k
theorem mh_P.obj {E : mh_E} {s : State} {h : mh_H} {H : Heap} (hW : mh_P E s h H) {a : Nat} {q : Nat × List Value} (hc : h.2 a = some (.inr (.inl q))) : va_P E.2.1 vwCl [(a, .inr q)] H := by
  intro k x hk
  have hz : k < 1 := (List.getElem?_eq_some_iff.mp hk).1
  rw [show k = 0 by omega] at hk
  cases hk
  exact (hW.2.2.2 a _ hc).2
theorem mh_P.arr {E : mh_E} {s : State} {h : mh_H} {H : Heap} (hW : mh_P E s h H) {a : Nat} {q : Nat × vp_A} (hc : h.2 a = some (.inl q)) : va_P E.2.1 vwCl [(a, .inl (E.2.2.1 q.1, q.2))] H := by
  intro k x hk
  have hz : k < 1 := (List.getElem?_eq_some_iff.mp hk).1
  rw [show k = 0 by omega] at hk
  cases hk
  exact (hW.2.2.2 a _ hc).2.2
theorem mh_K.vaT {E : mh_E} {s : State} (h : mh_K E s) (k : Nat) (hk : k < 8) : va_K E.2.1 vwCl [(E.2.2.1 k, mh_ty k)] s := by
  refine ⟨h.2.1, fun j q hq => ?_⟩
  have hz : j < 1 := (List.getElem?_eq_some_iff.mp hq).1
  rw [show j = 0 by omega] at hq
  cases hq
  exact h.2.2.1 k hk
section MHF
variable {X : mh_X} {pc idx ci q N : Nat} {P : mh_PR} {C : String} {T : u_T} {ty : Nat → FieldType}
def s_gi (ci q : Nat) (P : mh_PR) : mh_PR := fun lv st h k n => match st with
  | .ref a :: r => ∃ (fs : List Value) (x : Int32), h.2 a = some (.inr (.inl (ci, fs))) ∧ fs[q]? = some (.int x) ∧ P lv (.int x :: r) h k n
  | _ => False
def s_gr (ci q : Nat) (P : mh_PR) : mh_PR := fun lv st h k n => match st with
  | .ref a :: r => ∃ (fs : List Value) (x : Nat), h.2 a = some (.inr (.inl (ci, fs))) ∧ fs[q]? = some (.ref x) ∧ P lv (.ref x :: r) h k n
  | _ => False
theorem sn_geti (hC : mh_CL ci C T N ty) (hq : q < N) (hl0 : Cond.fieldLink X.2.1.cls idx (T q).1 (T q).2.1 (T q).2.2.1 ∈ lw_tbl) (hdg : decode X.2.2.1 pc = .ok (.getfield idx, 3)) (hP : mh_S X (pc + 3) P) : mh_S X pc (s_gi ci q P) := by
  obtain ⟨E, y, cc, nL, ret, d, mc, ms, Post⟩ := X
  intro lv st h k n hs
  unfold s_gi at hs
  split at hs
  · obtain ⟨fs, x, h1, h2, h3⟩ := hs
    intro p e s m args below meth c H locs ls hx hb hml hr hown hlk hnm hK hz hW hS hl
    exact va_get hx hb (mh_lays hC hK.1) (fun _ h => h) hown hK.va (hW.obj h1) 0 rfl hC.1 q hq (hK.1.use hl0 rfl) (fun _ h => h) h2 hdg (hP _ _ _ _ _ h3 p e s m args below meth c H locs ls hx hb hml hr hown hlk hnm hK hz hW hS hl)
  · exact hs.elim
theorem sn_getr (hC : mh_CL ci C T N ty) (hq : q < N) (hl0 : Cond.fieldLink X.2.1.cls idx (T q).1 (T q).2.1 (T q).2.2.1 ∈ lw_tbl) (hdg : decode X.2.2.1 pc = .ok (.getfield idx, 3)) (hP : mh_S X (pc + 3) P) : mh_S X pc (s_gr ci q P) := by
  obtain ⟨E, y, cc, nL, ret, d, mc, ms, Post⟩ := X
  intro lv st h k n hs
  unfold s_gr at hs
  split at hs
  · obtain ⟨fs, x, h1, h2, h3⟩ := hs
    intro p e s m args below meth c H locs ls hx hb hml hr hown hlk hnm hK hz hW hS hl
    exact va_get hx hb (mh_lays hC hK.1) (fun _ h => h) hown hK.va (hW.obj h1) 0 rfl hC.1 q hq (hK.1.use hl0 rfl) (fun _ h => h) h2 hdg (hP _ _ _ _ _ h3 p e s m args below meth c H locs ls hx hb hml hr hown hlk hnm hK hz hW hS hl)
  · exact hs.elim
def s_pi (ci q : Nat) (P : mh_PR) : mh_PR := fun lv st h k n => match st with
  | .int x :: .ref a :: r => ∃ fs : List Value, h.2 a = some (.inr (.inl (ci, fs))) ∧ q < fs.length ∧ P lv r (mh_put h a (.inr (.inl (ci, fs.set q (.int x))))) k n
  | _ => False
def s_pz (ci q : Nat) (P : mh_PR) : mh_PR := fun lv st h k n => match st with
  | .int x :: .ref a :: r => (x = 0 ∨ x = 1) ∧ ∃ fs : List Value, h.2 a = some (.inr (.inl (ci, fs))) ∧ q < fs.length ∧ P lv r (mh_put h a (.inr (.inl (ci, fs.set q (.int x))))) k n
  | _ => False
def s_pr (ci q : Nat) (P : mh_PR) : mh_PR := fun lv st h k n => match st with
  | .ref x :: .ref a :: r => ∃ fs : List Value, h.2 a = some (.inr (.inl (ci, fs))) ∧ q < fs.length ∧ P lv r (mh_put h a (.inr (.inl (ci, fs.set q (.ref x))))) k n
  | _ => False
theorem mh_Wput {p : Program} {e : Env} {s : State} {m : MethodId} {args : Array Value} {below : List Frame} {meth : Method} {c : Code} {H : Heap} {locs : List Loc} {ls : Array Slot} {E : mh_E} {R : Room} {Q : State → Prop} {h : mh_H} {k n : Nat} {cc : ByteArray} {own : String} {a : Nat} {fs rest : List Value} {v : Value} (hx : p.tables.exec = Jvm.exec) (hb : c.code = cc) (hown : s.vm.findClass own = some m.cls) (hK : mh_K E s) (hW : mh_P E s h H) (hS : va_S (mh_A E) s.heap H locs) (hC : mh_CL ci C T N ty) (hq : q < N) (hl0 : Cond.fieldLink own idx (T q).1 (T q).2.1 (T q).2.2.1 ∈ lw_tbl) (hfin : (T q).2.2.2 = false) (hn : narrow (ty q) v = v) (hfit : fits (ty q) v = true) (h1 : h.2 a = some (.inr (.inl (ci, fs)))) (hl : q < fs.length) (hdg : decode cc pc = .ok (.putfield idx, 3))
    (kk : ∀ (H1 : Heap) (locs1 : List Loc), mh_P E s (mh_put h a (.inr (.inl (ci, fs.set q v)))) H1 → va_S (mh_A E) s.heap H1 locs1 → W p E.1 e R s m args below meth c H1 locs1 k n Q (F0 m (pc + 3) ls rest)) : W p E.1 e R s m args below meth c H locs k n Q (F0 m pc ls (v :: .ref a :: rest)) := by
  have hts := mh_lays hC hK.1 (args := args)
  have hap := va_apart (own := own) hts (fun _ h => h) ty hC.2.1 hC.2.2.1 hK.va hC.1
  obtain ⟨hz', r, h2, cell, q1, q2, q3, q4⟩ := hW.2.2.2 a _ h1
  have hr : r = (C, T, N) := Option.some.inj (h2.symm.trans hC.1)
  subst hr
  obtain ⟨hS', hfc, kC, hkC, hkind⟩ := hK.2.1 ci _ hC.1
  obtain ⟨cf, kf, fi, f, hi, hsl⟩ := hS' q hq
  have hlay := hts _ (u_in_lay hq)
  unfold u_lay at hlay
  rw [if_neg (by rw [hfin]; decide)] at hlay
  have hst := (u_facts hfc hkC (u_lays hts (fun _ h => h) hq) hi).1
  have h6 := u_store hfc hkC hkind hlay hi (hC.2.1 q hq) hn hfit
  refine W.putK hx hb (f := f) ⟨hown, hK.1.use hl0 rfl, ⟨_, _, _, hi⟩, hst⟩ (by rw [q2]; exact h6) q1 q3 (by rw [hsl]; exact k2_hasslot (q4 q hq)) rfl rfl hdg fun H' e1 e2 e3 => ?_
  rw [hsl] at e1 ⊢
  exact kk H' _ (hW.put hz' e2 e3 ⟨hz', _, hC.1, t_OB.to (V := updV (vp_V fs) q v) ⟨_, e1, q2, q3, t_set q4 hap hq v⟩ (fun j _ => vp_updV_set hl v j)⟩) (hS.put e2 e3 hz')
theorem mh_WputF {p : Program} {e : Env} {s : State} {m : MethodId} {args : Array Value} {below : List Frame} {meth : Method} {c : Code} {H : Heap} {locs : List Loc} {ls : Array Slot} {E : mh_E} {R : Room} {Q : State → Prop} {h : mh_H} {k n : Nat} {cc : ByteArray} {own : String} {a : Nat} {fs rest : List Value} {v : Value} (hx : p.tables.exec = Jvm.exec) (hb : c.code = cc) (hown : s.vm.findClass own = some m.cls) (hK : mh_K E s) (hW : mh_P E s h H) (hS : va_S (mh_A E) s.heap H locs) (hC : mh_CL ci C T N ty) (hq : q < N) (hl0 : Cond.fieldLink own idx (T q).1 (T q).2.1 (T q).2.2.1 ∈ lw_tbl) (hfin : (T q).2.2.2 = true) (hin2 : meth.name = "<init>") (hdecl : (T q).1 = own) (hn : narrow (ty q) v = v) (hfit : fits (ty q) v = true) (h1 : h.2 a = some (.inr (.inl (ci, fs)))) (hl : q < fs.length) (hdg : decode cc pc = .ok (.putfield idx, 3))
    (kk : ∀ (H1 : Heap) (locs1 : List Loc), mh_P E s (mh_put h a (.inr (.inl (ci, fs.set q v)))) H1 → va_S (mh_A E) s.heap H1 locs1 → W p E.1 e R s m args below meth c H1 locs1 k n Q (F0 m (pc + 3) ls rest)) : W p E.1 e R s m args below meth c H locs k n Q (F0 m pc ls (v :: .ref a :: rest)) := by
  have hts := mh_lays hC hK.1 (args := args)
  have hap := va_apart (own := own) hts (fun _ h => h) ty hC.2.1 hC.2.2.1 hK.va hC.1
  obtain ⟨hz', r, h2, cell, q1, q2, q3, q4⟩ := hW.2.2.2 a _ h1
  have hr : r = (C, T, N) := Option.some.inj (h2.symm.trans hC.1)
  subst hr
  obtain ⟨hS', hfc, kC, hkC, hkind⟩ := hK.2.1 ci _ hC.1
  obtain ⟨cf, kf, fi, f, hi, hsl⟩ := hS' q hq
  have hlay := hts _ (u_in_lay hq)
  unfold u_lay at hlay
  rw [if_pos hfin] at hlay
  have hst := (u_facts hfc hkC (u_lays hts (fun _ h => h) hq) hi).1
  have hcf : m.cls = cf := by
    obtain ⟨_, _, c', _, _, _, -, -, hf', -, -, -, hown2, -⟩ := Cond.laysFinal_spec hlay
    have e1 : c' = cf := by have := hi.symm.trans hf'; simp at this; exact this.1.symm
    rw [hdecl] at hown2
    rw [← e1]; exact Option.some.inj (hown.symm.trans hown2)
  have h6 := u_fits hfc hkC hkind (Or.inr hlay) hi (hC.2.1 q hq) hn hfit
  refine W.putFinK hx hb hown (hK.1.use hl0 rfl) hi hst hcf hin2 (by rw [q2]; exact h6) q1 q3 (by rw [hsl]; exact k2_hasslot (q4 q hq)) rfl rfl hdg fun H' e1 e2 e3 => ?_
  rw [hsl] at e1 ⊢
  exact kk H' _ (hW.put hz' e2 e3 ⟨hz', _, hC.1, t_OB.to (V := updV (vp_V fs) q v) ⟨_, e1, q2, q3, t_set q4 hap hq v⟩ (fun j _ => vp_updV_set hl v j)⟩) (hS.put e2 e3 hz')
theorem sn_puti (hC : mh_CL ci C T N ty) (hq : q < N) (hl0 : Cond.fieldLink X.2.1.cls idx (T q).1 (T q).2.1 (T q).2.2.1 ∈ lw_tbl) (hfin : (T q).2.2.2 = false) (hty : ty q = .int) (hdg : decode X.2.2.1 pc = .ok (.putfield idx, 3)) (hP : mh_S X (pc + 3) P) : mh_S X pc (s_pi ci q P) := by
  obtain ⟨E, y, cc, nL, ret, d, mc, ms, Post⟩ := X
  intro lv st h k n hs
  unfold s_pi at hs
  split at hs
  · obtain ⟨fs, h1, h2, h3⟩ := hs
    intro p e s m args below meth c H locs ls hx hb hml hr hown hlk hnm hK hz hW hS hl
    exact mh_Wput hx hb hown hK hW hS hC hq hl0 hfin (by rw [hty]; rfl) (by rw [hty]; rfl) h1 h2 hdg (fun H1 locs1 hW hS => hP _ _ _ _ _ h3 p e s m args below meth c H1 locs1 ls hx hb hml hr hown hlk hnm hK hz hW hS hl)
  · exact hs.elim
theorem sn_putiF (hC : mh_CL ci C T N ty) (hq : q < N) (hl0 : Cond.fieldLink X.2.1.cls idx (T q).1 (T q).2.1 (T q).2.2.1 ∈ lw_tbl) (hfin : (T q).2.2.2 = true) (hin2 : X.2.1.name = "<init>") (hdecl : (T q).1 = X.2.1.cls) (hty : ty q = .int) (hdg : decode X.2.2.1 pc = .ok (.putfield idx, 3)) (hP : mh_S X (pc + 3) P) : mh_S X pc (s_pi ci q P) := by
  obtain ⟨E, y, cc, nL, ret, d, mc, ms, Post⟩ := X
  intro lv st h k n hs
  unfold s_pi at hs
  split at hs
  · obtain ⟨fs, h1, h2, h3⟩ := hs
    intro p e s m args below meth c H locs ls hx hb hml hr hown hlk hnm hK hz hW hS hl
    exact mh_WputF hx hb hown hK hW hS hC hq hl0 hfin (hnm.trans hin2) hdecl (by rw [hty]; rfl) (by rw [hty]; rfl) h1 h2 hdg (fun H1 locs1 hW hS => hP _ _ _ _ _ h3 p e s m args below meth c H1 locs1 ls hx hb hml hr hown hlk hnm hK hz hW hS hl)
  · exact hs.elim
theorem sn_putz (hC : mh_CL ci C T N ty) (hq : q < N) (hl0 : Cond.fieldLink X.2.1.cls idx (T q).1 (T q).2.1 (T q).2.2.1 ∈ lw_tbl) (hfin : (T q).2.2.2 = false) (hty : ty q = .boolean) (hdg : decode X.2.2.1 pc = .ok (.putfield idx, 3)) (hP : mh_S X (pc + 3) P) : mh_S X pc (s_pz ci q P) := by
  obtain ⟨E, y, cc, nL, ret, d, mc, ms, Post⟩ := X
  intro lv st h k n hs
  unfold s_pz at hs
  split at hs
  · obtain ⟨hz0, fs, h1, h2, h3⟩ := hs
    intro p e s m args below meth c H locs ls hx hb hml hr hown hlk hnm hK hz hW hS hl
    exact mh_Wput hx hb hown hK hW hS hC hq hl0 hfin (by rw [hty]; rcases hz0 with rfl | rfl <;> rfl) (by rw [hty]; rcases hz0 with rfl | rfl <;> rfl) h1 h2 hdg (fun H1 locs1 hW hS => hP _ _ _ _ _ h3 p e s m args below meth c H1 locs1 ls hx hb hml hr hown hlk hnm hK hz hW hS hl)
  · exact hs.elim
theorem sn_putr (hC : mh_CL ci C T N ty) (hq : q < N) (hl0 : Cond.fieldLink X.2.1.cls idx (T q).1 (T q).2.1 (T q).2.2.1 ∈ lw_tbl) (hfin : (T q).2.2.2 = false) (hty : (∃ C9, ty q = .object C9) ∨ ∃ t9, ty q = .array t9) (hdg : decode X.2.2.1 pc = .ok (.putfield idx, 3)) (hP : mh_S X (pc + 3) P) : mh_S X pc (s_pr ci q P) := by
  obtain ⟨E, y, cc, nL, ret, d, mc, ms, Post⟩ := X
  intro lv st h k n hs
  unfold s_pr at hs
  split at hs
  · obtain ⟨fs, h1, h2, h3⟩ := hs
    intro p e s m args below meth c H locs ls hx hb hml hr hown hlk hnm hK hz hW hS hl
    exact mh_Wput hx hb hown hK hW hS hC hq hl0 hfin (by rcases hty with ⟨_, e9⟩ | ⟨_, e9⟩ <;> (rw [e9]; rfl)) (by rcases hty with ⟨_, e9⟩ | ⟨_, e9⟩ <;> (rw [e9]; rfl)) h1 h2 hdg (fun H1 locs1 hW hS => hP _ _ _ _ _ h3 p e s m args below meth c H1 locs1 ls hx hb hml hr hown hlk hnm hK hz hW hS hl)
  · exact hs.elim
theorem sn_putrF (hC : mh_CL ci C T N ty) (hq : q < N) (hl0 : Cond.fieldLink X.2.1.cls idx (T q).1 (T q).2.1 (T q).2.2.1 ∈ lw_tbl) (hfin : (T q).2.2.2 = true) (hin2 : X.2.1.name = "<init>") (hdecl : (T q).1 = X.2.1.cls) (hty : (∃ C9, ty q = .object C9) ∨ ∃ t9, ty q = .array t9) (hdg : decode X.2.2.1 pc = .ok (.putfield idx, 3)) (hP : mh_S X (pc + 3) P) : mh_S X pc (s_pr ci q P) := by
  obtain ⟨E, y, cc, nL, ret, d, mc, ms, Post⟩ := X
  intro lv st h k n hs
  unfold s_pr at hs
  split at hs
  · obtain ⟨fs, h1, h2, h3⟩ := hs
    intro p e s m args below meth c H locs ls hx hb hml hr hown hlk hnm hK hz hW hS hl
    exact mh_WputF hx hb hown hK hW hS hC hq hl0 hfin (hnm.trans hin2) hdecl (by rcases hty with ⟨_, e9⟩ | ⟨_, e9⟩ <;> (rw [e9]; rfl)) (by rcases hty with ⟨_, e9⟩ | ⟨_, e9⟩ <;> (rw [e9]; rfl)) h1 h2 hdg (fun H1 locs1 hW hS => hP _ _ _ _ _ h3 p e s m args below meth c H1 locs1 ls hx hb hml hr hown hlk hnm hK hz hW hS hl)
  · exact hs.elim
end MHF
section MHA
variable {X : mh_X} {pc : Nat} {P : mh_PR}
def s_ald (kd : Nat) (P : mh_PR) : mh_PR := fun lv st h k n => match st with
  | .int i :: .ref a :: r => ∃ (n0 : Nat) (f : Nat → Int32), h.2 a = some (.inl (kd, n0, .inl f)) ∧ vp_in i n0 ∧ P lv (.int (f i.toNatClampNeg) :: r) h k n
  | _ => False
def s_lald (P : mh_PR) : mh_PR := fun lv st h k n => match st with
  | .int i :: .ref a :: r => ∃ (n0 : Nat) (f : Nat → Int64), h.2 a = some (.inl (3, n0, .inr (.inl f))) ∧ vp_in i n0 ∧ P lv (.long (f i.toNatClampNeg) :: r) h k n
  | _ => False
def s_aald (kd : Nat) (P : mh_PR) : mh_PR := fun lv st h k n => match st with
  | .int i :: .ref a :: r => ∃ (n0 : Nat) (f : Nat → Option Nat), h.2 a = some (.inl (kd, n0, .inr (.inr (.inr (.inr f))))) ∧ vp_in i n0 ∧ P lv (va_rf (f i.toNatClampNeg) :: r) h k n
  | _ => False
def s_tald (P : mh_PR) : mh_PR := fun lv st h k n => match st with
  | .int i :: .ref a :: r => ∃ (n0 : Nat) (f : Nat → Int32), h.2 a = some (.inr (.inr (n0, f))) ∧ vp_in i n0 ∧ P lv (.int (f i.toNatClampNeg) :: r) h k n
  | _ => False
def s_alen (P : mh_PR) : mh_PR := fun lv st h k n => match st with
  | .ref a :: r => ∃ q : Nat × vp_A, h.2 a = some (.inl q) ∧ P lv (.int (Int32.ofNat q.2.1) :: r) h k n
  | _ => False
def s_tlen (P : mh_PR) : mh_PR := fun lv st h k n => match st with
  | .ref a :: r => ∃ q : Nat × (Nat → Int32), h.2 a = some (.inr (.inr q)) ∧ P lv (.int (Int32.ofNat q.1) :: r) h k n
  | _ => False
theorem sn_iaload (hdg : decode X.2.2.1 pc = .ok (.iaload, 1)) (hP : mh_S X (pc + 1) P) : mh_S X pc (s_ald 0 P) := by
  obtain ⟨E, y, cc, nL, ret, d, mc, ms, Post⟩ := X
  intro lv st h k n hs
  unfold s_ald at hs
  split at hs
  · obtain ⟨n0, f, h1, h2, h3⟩ := hs
    intro p e s m args below meth c H locs ls hx hb hml hr hown hlk hnm hK hz hW hS hl
    exact va_iald hx hb (hK.vaT 0 (by decide)) (hW.arr h1) 0 0 rfl rfl h2 hdg (hP _ _ _ _ _ h3 p e s m args below meth c H locs ls hx hb hml hr hown hlk hnm hK hz hW hS hl)
  · exact hs.elim
theorem sn_caload (hdg : decode X.2.2.1 pc = .ok (.caload, 1)) (hP : mh_S X (pc + 1) P) : mh_S X pc (s_ald 1 P) := by
  obtain ⟨E, y, cc, nL, ret, d, mc, ms, Post⟩ := X
  intro lv st h k n hs
  unfold s_ald at hs
  split at hs
  · obtain ⟨n0, f, h1, h2, h3⟩ := hs
    intro p e s m args below meth c H locs ls hx hb hml hr hown hlk hnm hK hz hW hS hl
    exact va_cald hx hb (hK.vaT 1 (by decide)) (hW.arr h1) 0 0 rfl rfl h2 hdg (hP _ _ _ _ _ h3 p e s m args below meth c H locs ls hx hb hml hr hown hlk hnm hK hz hW hS hl)
  · exact hs.elim
theorem sn_baload (hdg : decode X.2.2.1 pc = .ok (.baload, 1)) (hP : mh_S X (pc + 1) P) : mh_S X pc (s_ald 2 P) := by
  obtain ⟨E, y, cc, nL, ret, d, mc, ms, Post⟩ := X
  intro lv st h k n hs
  unfold s_ald at hs
  split at hs
  · obtain ⟨n0, f, h1, h2, h3⟩ := hs
    intro p e s m args below meth c H locs ls hx hb hml hr hown hlk hnm hK hz hW hS hl
    exact va_zald hx hb (hK.vaT 2 (by decide)) (hW.arr h1) 0 0 rfl rfl h2 hdg (hP _ _ _ _ _ h3 p e s m args below meth c H locs ls hx hb hml hr hown hlk hnm hK hz hW hS hl)
  · exact hs.elim
theorem sn_laload (hdg : decode X.2.2.1 pc = .ok (.laload, 1)) (hP : mh_S X (pc + 1) P) : mh_S X pc (s_lald P) := by
  obtain ⟨E, y, cc, nL, ret, d, mc, ms, Post⟩ := X
  intro lv st h k n hs
  unfold s_lald at hs
  split at hs
  · obtain ⟨n0, f, h1, h2, h3⟩ := hs
    intro p e s m args below meth c H locs ls hx hb hml hr hown hlk hnm hK hz hW hS hl
    exact va_lald hx hb (hK.vaT 3 (by decide)) (hW.arr h1) 0 0 rfl rfl h2 hdg (hP _ _ _ _ _ h3 p e s m args below meth c H locs ls hx hb hml hr hown hlk hnm hK hz hW hS hl)
  · exact hs.elim
theorem sn_aaload {kd : Nat} {C : String} (hk : kd < 8) (hty : mh_ty kd = .object C) (hdg : decode X.2.2.1 pc = .ok (.aaload, 1)) (hP : mh_S X (pc + 1) P) : mh_S X pc (s_aald kd P) := by
  obtain ⟨E, y, cc, nL, ret, d, mc, ms, Post⟩ := X
  intro lv st h k n hs
  unfold s_aald at hs
  split at hs
  · obtain ⟨n0, f, h1, h2, h3⟩ := hs
    intro p e s m args below meth c H locs ls hx hb hml hr hown hlk hnm hK hz hW hS hl
    exact va_aldq hx hb (hK.vaT kd hk) (hW.arr h1) 0 0 rfl (by rw [hty]; rfl) h2 hdg (hP _ _ _ _ _ h3 p e s m args below meth c H locs ls hx hb hml hr hown hlk hnm hK hz hW hS hl)
  · exact hs.elim
theorem sn_taload (hdg : decode X.2.2.1 pc = .ok (.iaload, 1)) (hP : mh_S X (pc + 1) P) : mh_S X pc (s_tald P) := by
  obtain ⟨E, y, cc, nL, ret, d, mc, ms, Post⟩ := X
  intro lv st h k n hs
  unfold s_tald at hs
  split at hs
  · obtain ⟨n0, f, h1, h2, h3⟩ := hs
    intro p e s m args below meth c H locs ls hx hb hml hr hown hlk hnm hK hz hW hS hl
    obtain ⟨hzz, scr, g1, g2, g3, g4, g5⟩ := hW.2.2.2 _ _ h1
    rename_i i a r
    have hlt : i.toNatClampNeg < n0 := Nat.not_le.mp fun q => h2 (Or.inr q)
    exact W.iald (v := .int (f i.toNatClampNeg)) hx hb g1 g2 g3 (by rw [g4]; exact h2) (g5 _ hlt) rfl rfl hdg (hP _ _ _ _ _ h3 p e s m args below meth c H locs ls hx hb hml hr hown hlk hnm hK hz hW hS hl)
  · exact hs.elim
theorem sn_alen (hdg : decode X.2.2.1 pc = .ok (.arraylength, 1)) (hP : mh_S X (pc + 1) P) : mh_S X pc (s_alen P) := by
  obtain ⟨E, y, cc, nL, ret, d, mc, ms, Post⟩ := X
  intro lv st h k n hs
  unfold s_alen at hs
  split at hs
  · obtain ⟨q, h1, h3⟩ := hs
    intro p e s m args below meth c H locs ls hx hb hml hr hown hlk hnm hK hz hW hS hl
    exact va_alen hx hb (hK.vaT q.1 (hW.2.2.2 _ _ h1).2.1) (hW.arr h1) 0 0 rfl rfl rfl hdg (hP _ _ _ _ _ h3 p e s m args below meth c H locs ls hx hb hml hr hown hlk hnm hK hz hW hS hl)
  · exact hs.elim
theorem sn_tlen (hdg : decode X.2.2.1 pc = .ok (.arraylength, 1)) (hP : mh_S X (pc + 1) P) : mh_S X pc (s_tlen P) := by
  obtain ⟨E, y, cc, nL, ret, d, mc, ms, Post⟩ := X
  intro lv st h k n hs
  unfold s_tlen at hs
  split at hs
  · obtain ⟨q, h1, h3⟩ := hs
    intro p e s m args below meth c H locs ls hx hb hml hr hown hlk hnm hK hz hW hS hl
    obtain ⟨hzz, scr, g1, g2, g3, g4, g5⟩ := hW.2.2.2 _ _ h1
    exact W.alen (n := Int32.ofNat q.1) hx hb g1 g2 (by rw [g4]) rfl rfl hdg (hP _ _ _ _ _ h3 p e s m args below meth c H locs ls hx hb hml hr hown hlk hnm hK hz hW hS hl)
  · exact hs.elim
def s_ast (kd : Nat) (g : Int32 → Int32) (P : mh_PR) : mh_PR := fun lv st h k n => match st with
  | .int x :: .int i :: .ref a :: r => ∃ (n0 : Nat) (f : Nat → Int32), h.2 a = some (.inl (kd, n0, .inl f)) ∧ vp_in i n0 ∧ P lv r (mh_put h a (.inl (kd, n0, .inl (upd f i.toNatClampNeg (g x))))) k n
  | _ => False
def s_last (P : mh_PR) : mh_PR := fun lv st h k n => match st with
  | .long x :: .int i :: .ref a :: r => ∃ (n0 : Nat) (f : Nat → Int64), h.2 a = some (.inl (3, n0, .inr (.inl f))) ∧ vp_in i n0 ∧ P lv r (mh_put h a (.inl (3, n0, .inr (.inl (vp_updL f i.toNatClampNeg x))))) k n
  | _ => False
def s_aast (kd ci : Nat) (P : mh_PR) : mh_PR := fun lv st h k n => match st with
  | .ref v :: .int i :: .ref a :: r => ∃ (n0 : Nat) (f : Nat → Option Nat) (fs : List Value), h.2 a = some (.inl (kd, n0, .inr (.inr (.inr (.inr f))))) ∧ h.2 v = some (.inr (.inl (ci, fs))) ∧ vp_in i n0 ∧ P lv r (mh_put h a (.inl (kd, n0, .inr (.inr (.inr (.inr (va_up f i.toNatClampNeg (some v)))))))) k n
  | _ => False
-- stores
theorem sn_iastore (hdg : decode X.2.2.1 pc = .ok (.iastore, 1)) (hP : mh_S X (pc + 1) P) : mh_S X pc (s_ast 0 (fun x => x) P) := by
  obtain ⟨E, y, cc, nL, ret, d, mc, ms, Post⟩ := X
  intro lv st h k n hs
  unfold s_ast at hs
  split at hs
  · rename_i x i a r
    obtain ⟨n0, f, h1, h2, h3⟩ := hs
    intro p e s m args below meth c H locs ls hx hb hml hr hown hlk hnm hK hz hW hS hl
    have hc := hW.2.2.2 _ _ h1
    refine W.iast hx hb hc.2.2 ((hK.2.2.1 0 (by decide)).1 n0 (fun j => .int (f j))) (fun q => by cases q) (by show ¬ (i < 0 ∨ (arrV _ _ _).slots.size ≤ _); rw [arrV_size]; exact h2) rfl rfl hdg fun H1 e1 z oq => ?_
    refine hP _ _ _ _ _ h3 p e s m args below meth c H1 _ ls hx hb hml hr hown hlk hnm hK hz (hW.put hc.1 z oq ⟨hc.1, hc.2.1, ?_⟩) (hS.put z oq hc.1) hl
    rw [e1]
    rw [vp_cell_i, vp_cell_i, arrV_store]
    congr 2
    funext q
    by_cases hq : q = i.toNatClampNeg
    · subst hq
      simp [updV, upd]
      try rfl
    · simp [updV, upd, hq]
  · exact hs.elim
theorem sn_castore (hdg : decode X.2.2.1 pc = .ok (.castore, 1)) (hP : mh_S X (pc + 1) P) : mh_S X pc (s_ast 1 (vp_nar .char) P) := by
  obtain ⟨E, y, cc, nL, ret, d, mc, ms, Post⟩ := X
  intro lv st h k n hs
  unfold s_ast at hs
  split at hs
  · rename_i x i a r
    obtain ⟨n0, f, h1, h2, h3⟩ := hs
    intro p e s m args below meth c H locs ls hx hb hml hr hown hlk hnm hK hz hW hS hl
    have hc := hW.2.2.2 _ _ h1
    refine W.cast hx hb hc.2.2 ((hK.2.2.1 1 (by decide)).1 n0 (fun j => .int (f j))) (fun q => by cases q) (by show ¬ (i < 0 ∨ (arrV _ _ _).slots.size ≤ _); rw [arrV_size]; exact h2) rfl rfl hdg fun H1 e1 z oq => ?_
    refine hP _ _ _ _ _ h3 p e s m args below meth c H1 _ ls hx hb hml hr hown hlk hnm hK hz (hW.put hc.1 z oq ⟨hc.1, hc.2.1, ?_⟩) (hS.put z oq hc.1) hl
    rw [e1]
    rw [vp_cell_i, vp_cell_i, arrV_store]
    congr 2
    funext q
    by_cases hq : q = i.toNatClampNeg
    · subst hq
      simp [updV, upd, vp_nar]
      try rfl
    · simp [updV, upd, vp_nar, hq]
  · exact hs.elim
theorem sn_bastore (hdg : decode X.2.2.1 pc = .ok (.bastore, 1)) (hP : mh_S X (pc + 1) P) : mh_S X pc (s_ast 2 (vp_nar .boolean) P) := by
  obtain ⟨E, y, cc, nL, ret, d, mc, ms, Post⟩ := X
  intro lv st h k n hs
  unfold s_ast at hs
  split at hs
  · rename_i x i a r
    obtain ⟨n0, f, h1, h2, h3⟩ := hs
    intro p e s m args below meth c H locs ls hx hb hml hr hown hlk hnm hK hz hW hS hl
    have hc := hW.2.2.2 _ _ h1
    refine W.zast hx hb hc.2.2 ((hK.2.2.1 2 (by decide)).1 n0 (fun j => .int (f j))) (fun q => by cases q) (by show ¬ (i < 0 ∨ (arrV _ _ _).slots.size ≤ _); rw [arrV_size]; exact h2) rfl rfl hdg fun H1 e1 z oq => ?_
    refine hP _ _ _ _ _ h3 p e s m args below meth c H1 _ ls hx hb hml hr hown hlk hnm hK hz (hW.put hc.1 z oq ⟨hc.1, hc.2.1, ?_⟩) (hS.put z oq hc.1) hl
    rw [e1]
    rw [vp_cell_i, vp_cell_i, arrV_store]
    congr 2
    funext q
    by_cases hq : q = i.toNatClampNeg
    · subst hq
      simp [updV, upd, vp_nar]
      try rfl
    · simp [updV, upd, vp_nar, hq]
  · exact hs.elim
theorem sn_lastore (hdg : decode X.2.2.1 pc = .ok (.lastore, 1)) (hP : mh_S X (pc + 1) P) : mh_S X pc (s_last P) := by
  obtain ⟨E, y, cc, nL, ret, d, mc, ms, Post⟩ := X
  intro lv st h k n hs
  unfold s_last at hs
  split at hs
  · rename_i x i a r
    obtain ⟨n0, f, h1, h2, h3⟩ := hs
    intro p e s m args below meth c H locs ls hx hb hml hr hown hlk hnm hK hz hW hS hl
    have hc := hW.2.2.2 _ _ h1
    refine W.last hx hb hc.2.2 ((hK.2.2.1 3 (by decide)).1 n0 (fun j => .long (f j))) (fun q => by cases q) (by show ¬ (i < 0 ∨ (arrV _ _ _).slots.size ≤ _); rw [arrV_size]; exact h2) rfl rfl hdg fun H1 e1 z oq => ?_
    refine hP _ _ _ _ _ h3 p e s m args below meth c H1 _ ls hx hb hml hr hown hlk hnm hK hz (hW.put hc.1 z oq ⟨hc.1, hc.2.1, ?_⟩) (hS.put z oq hc.1) hl
    rw [e1]
    rw [vp_cell_l, vp_cell_l, arrV_store]
    congr 2
    funext q
    by_cases hq : q = i.toNatClampNeg
    · subst hq
      simp [updV, vp_updL]
      try rfl
    · simp [updV, vp_updL, hq]
  · exact hs.elim
theorem sn_aastore {kd ci N : Nat} {C : String} {T : u_T} {ty : Nat → FieldType} (hC : mh_CL ci C T N ty) (hk : kd < 8) (hty : mh_ty kd = .object C) (hdg : decode X.2.2.1 pc = .ok (.aastore, 1)) (hP : mh_S X (pc + 1) P) : mh_S X pc (s_aast kd ci P) := by
  obtain ⟨E, y, cc, nL, ret, d, mc, ms, Post⟩ := X
  intro lv st h k n hs
  unfold s_aast at hs
  split at hs
  · rename_i v i a r
    obtain ⟨n0, f, fs, h1, hv, h2, h3⟩ := hs
    intro p e s m args below meth c H locs ls hx hb hml hr hown hlk hnm hK hz hW hS hl
    have hc := hW.2.2.2 _ _ h1
    have hlt : i.toNatClampNeg < n0 := Nat.not_le.mp fun q => h2 (Or.inr q)
    have h0 : ¬ i < 0 := fun q => h2 (Or.inl q)
    obtain ⟨-, r', hr', cellV, g1, g2, g3, -⟩ := hW.2.2.2 _ _ hv
    have hcls := (hK.2.1 ci _ hC.1).2
    have hra := (hK.2.2.1 kd hk).2
    rw [hty] at hra
    obtain ⟨kA, comp, k1, k2, k3, -⟩ := hra
    have hcomp : comp = E.2.1.1 ci := Option.some.inj (k3.symm.trans hcls.1)
    subst hcomp
    obtain ⟨kC, hkC, -⟩ := hcls.2
    refine W.aast hx hb hc.2.2 (fun q h => by cases h) (fun h => by cases h) k1 k2 rfl hkC ⟨h0, by show _ < (arrV _ _ _).slots.size; rw [arrV_size]; exact hlt⟩ g1 (fun q h => by rw [g3] at h; cases h) (by rw [g2]; exact hkC) (by rw [g2]; exact va_assign hcls) rfl rfl hdg fun H1 e1 z oq => ?_
    refine hP _ _ _ _ _ h3 p e s m args below meth c H1 _ ls hx hb hml hr hown hlk hnm hK hz (hW.put hc.1 z oq ⟨hc.1, hk, ?_⟩) (hS.put z oq hc.1) hl
    rw [e1]
    rw [vp_cell_q, vp_cell_q, arrV_store]
    congr 2
    funext q
    by_cases hq : q = i.toNatClampNeg
    · subst hq
      simp [updV, va_up, va_rf]
    · simp [updV, va_up, hq]
  · exact hs.elim
end MHA
