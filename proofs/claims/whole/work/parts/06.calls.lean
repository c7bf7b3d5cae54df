/-! PART 06: new cells, calls, ends, the entry -/
theorem mh_stw : ∀ (r : List Value), r.length ≤ 4 → (r.map fun v => v.category).sum ≤ 8 := by
  have key : ∀ (r : List Value), (r.map fun v => v.category).sum ≤ 2 * r.length := by
    intro r
    induction r with
    | nil => simp
    | cons v t ih =>
      simp only [List.map_cons, List.sum_cons, List.length_cons]
      rcases lv_cat v with hv | hv <;> omega
  intro r hr
  have := key r
  omega
section MHN
variable {X : mh_X} {pc idx : Nat} {P : mh_PR}
def s_newa (X : mh_X) (kd : Nat) (P : mh_PR) : mh_PR := fun lv st h k n => match st with
  | .int i :: r => ∃ N : Nat, i = nI N ∧ N ≤ 4096 ∧ k + 1 ≤ mh_mc X ∧ n + N ≤ mh_ms X ∧ P lv (.ref h.1 :: r) (mh_new h (.inl (kd, N, .inl (fun _ => 0)))) (k + 1) (n + N)
  | _ => False
def s_newl (X : mh_X) (P : mh_PR) : mh_PR := fun lv st h k n => match st with
  | .int i :: r => ∃ N : Nat, i = nI N ∧ N ≤ 4096 ∧ k + 1 ≤ mh_mc X ∧ n + N ≤ mh_ms X ∧ P lv (.ref h.1 :: r) (mh_new h (.inl (3, N, .inr (.inl (fun _ => 0))))) (k + 1) (n + N)
  | _ => False
def s_newq (X : mh_X) (kd : Nat) (P : mh_PR) : mh_PR := fun lv st h k n => match st with
  | .int i :: r => ∃ N : Nat, i = nI N ∧ N ≤ 4096 ∧ k + 1 ≤ mh_mc X ∧ n + N ≤ mh_ms X ∧ P lv (.ref h.1 :: r) (mh_new h (.inl (kd, N, .inr (.inr (.inr (.inr (fun _ => none))))))) (k + 1) (n + N)
  | _ => False
theorem sn_newint (hw : Cond.arrayClass .int ∈ lw_tbl) (hdg : decode X.2.2.1 pc = .ok (.newarray .int, 2)) (hP : mh_S X (pc + 2) P) : mh_S X pc (s_newa X 0 P) := by
  obtain ⟨E, y, cc, nL, ret, d, mc, ms, Post⟩ := X
  intro lv st h k n hs
  unfold s_newa at hs
  split at hs
  · obtain ⟨N, rfl, h2, h3, h4, h5⟩ := hs
    intro p e s m args below meth c H locs ls hx hb hml hr hown hlk hnm hK hz hW hS hl
    have hN : N < 2 ^ 31 := by omega
    refine va_newaK (atype := .int) hx hb (hK.1.use hw rfl) rfl hdg rfl (nI_pos hN) (nI_clamp hN) (by simp [newarray.typeOf, componentBytes]; omega) h3 h4 hW.1.symm fun H1 cA e1 z1 o1 hAr hNm => ?_
    have hcA : cA = E.2.2.1 0 := Option.some.inj (hNm.symm.trans (show s.vm.findClass ("[" ++ (FieldType.int).toString) = some (E.2.2.1 0) from (hK.2.2.1 0 (by decide)).2))
    subst hcA
    have hz1 : H1.size = H.size + 1 := by rw [z1, hW.1]
    refine hP _ _ _ _ _ h5 p e s m args below meth c H1 locs ls hx hb hml hr hown hlk hnm hK hz (hW.new hz1 (fun q hq => o1 q (by rw [hW.1]; exact hq)) ⟨by rw [← hW.1]; exact hW.2.1, (show 0 < 8 by decide), ?_⟩) ⟨Nat.le_trans hS.1 (by omega), fun q g1 g2 => (o1 q (by rw [hW.1]; exact Nat.lt_of_lt_of_le g1 hS.1)).trans (hS.2.1 q g1 g2), hS.2.2⟩ hl
    rw [← hW.1, e1]
    rfl
  · exact hs.elim
theorem sn_newchar (hw : Cond.arrayClass .char ∈ lw_tbl) (hdg : decode X.2.2.1 pc = .ok (.newarray .char, 2)) (hP : mh_S X (pc + 2) P) : mh_S X pc (s_newa X 1 P) := by
  obtain ⟨E, y, cc, nL, ret, d, mc, ms, Post⟩ := X
  intro lv st h k n hs
  unfold s_newa at hs
  split at hs
  · obtain ⟨N, rfl, h2, h3, h4, h5⟩ := hs
    intro p e s m args below meth c H locs ls hx hb hml hr hown hlk hnm hK hz hW hS hl
    have hN : N < 2 ^ 31 := by omega
    refine va_newaK (atype := .char) hx hb (hK.1.use hw rfl) rfl hdg rfl (nI_pos hN) (nI_clamp hN) (by simp [newarray.typeOf, componentBytes]; omega) h3 h4 hW.1.symm fun H1 cA e1 z1 o1 hAr hNm => ?_
    have hcA : cA = E.2.2.1 1 := Option.some.inj (hNm.symm.trans (show s.vm.findClass ("[" ++ (FieldType.char).toString) = some (E.2.2.1 1) from (hK.2.2.1 1 (by decide)).2))
    subst hcA
    have hz1 : H1.size = H.size + 1 := by rw [z1, hW.1]
    refine hP _ _ _ _ _ h5 p e s m args below meth c H1 locs ls hx hb hml hr hown hlk hnm hK hz (hW.new hz1 (fun q hq => o1 q (by rw [hW.1]; exact hq)) ⟨by rw [← hW.1]; exact hW.2.1, (show 1 < 8 by decide), ?_⟩) ⟨Nat.le_trans hS.1 (by omega), fun q g1 g2 => (o1 q (by rw [hW.1]; exact Nat.lt_of_lt_of_le g1 hS.1)).trans (hS.2.1 q g1 g2), hS.2.2⟩ hl
    rw [← hW.1, e1]
    rfl
  · exact hs.elim
theorem sn_newbool (hw : Cond.arrayClass .boolean ∈ lw_tbl) (hdg : decode X.2.2.1 pc = .ok (.newarray .boolean, 2)) (hP : mh_S X (pc + 2) P) : mh_S X pc (s_newa X 2 P) := by
  obtain ⟨E, y, cc, nL, ret, d, mc, ms, Post⟩ := X
  intro lv st h k n hs
  unfold s_newa at hs
  split at hs
  · obtain ⟨N, rfl, h2, h3, h4, h5⟩ := hs
    intro p e s m args below meth c H locs ls hx hb hml hr hown hlk hnm hK hz hW hS hl
    have hN : N < 2 ^ 31 := by omega
    refine va_newaK (atype := .boolean) hx hb (hK.1.use hw rfl) rfl hdg rfl (nI_pos hN) (nI_clamp hN) (by simp [newarray.typeOf, componentBytes]; omega) h3 h4 hW.1.symm fun H1 cA e1 z1 o1 hAr hNm => ?_
    have hcA : cA = E.2.2.1 2 := Option.some.inj (hNm.symm.trans (show s.vm.findClass ("[" ++ (FieldType.boolean).toString) = some (E.2.2.1 2) from (hK.2.2.1 2 (by decide)).2))
    subst hcA
    have hz1 : H1.size = H.size + 1 := by rw [z1, hW.1]
    refine hP _ _ _ _ _ h5 p e s m args below meth c H1 locs ls hx hb hml hr hown hlk hnm hK hz (hW.new hz1 (fun q hq => o1 q (by rw [hW.1]; exact hq)) ⟨by rw [← hW.1]; exact hW.2.1, (show 2 < 8 by decide), ?_⟩) ⟨Nat.le_trans hS.1 (by omega), fun q g1 g2 => (o1 q (by rw [hW.1]; exact Nat.lt_of_lt_of_le g1 hS.1)).trans (hS.2.1 q g1 g2), hS.2.2⟩ hl
    rw [← hW.1, e1]
    rfl
  · exact hs.elim
theorem sn_newlong (hw : Cond.arrayClass .long ∈ lw_tbl) (hdg : decode X.2.2.1 pc = .ok (.newarray .long, 2)) (hP : mh_S X (pc + 2) P) : mh_S X pc (s_newl X P) := by
  obtain ⟨E, y, cc, nL, ret, d, mc, ms, Post⟩ := X
  intro lv st h k n hs
  unfold s_newl at hs
  split at hs
  · obtain ⟨N, rfl, h2, h3, h4, h5⟩ := hs
    intro p e s m args below meth c H locs ls hx hb hml hr hown hlk hnm hK hz hW hS hl
    have hN : N < 2 ^ 31 := by omega
    refine va_newaK (atype := .long) hx hb (hK.1.use hw rfl) rfl hdg rfl (nI_pos hN) (nI_clamp hN) (by simp [newarray.typeOf, componentBytes]; omega) h3 h4 hW.1.symm fun H1 cA e1 z1 o1 hAr hNm => ?_
    have hcA : cA = E.2.2.1 3 := Option.some.inj (hNm.symm.trans (show s.vm.findClass ("[" ++ (FieldType.long).toString) = some (E.2.2.1 3) from (hK.2.2.1 3 (by decide)).2))
    subst hcA
    have hz1 : H1.size = H.size + 1 := by rw [z1, hW.1]
    refine hP _ _ _ _ _ h5 p e s m args below meth c H1 locs ls hx hb hml hr hown hlk hnm hK hz (hW.new hz1 (fun q hq => o1 q (by rw [hW.1]; exact hq)) ⟨by rw [← hW.1]; exact hW.2.1, (show 3 < 8 by decide), ?_⟩) ⟨Nat.le_trans hS.1 (by omega), fun q g1 g2 => (o1 q (by rw [hW.1]; exact Nat.lt_of_lt_of_le g1 hS.1)).trans (hS.2.1 q g1 g2), hS.2.2⟩ hl
    rw [← hW.1, e1]
    rfl
  · exact hs.elim
theorem sn_newq {kd : Nat} {C : String} (hk : kd < 8) (hty : mh_ty kd = .object C) (hw : Cond.arrayOver (.object C) ∈ lw_tbl) (hcl : Cond.classLink X.2.1.cls idx C ∈ lw_tbl) (hdg : decode X.2.2.1 pc = .ok (.anewarray idx, 3)) (hP : mh_S X (pc + 3) P) : mh_S X pc (s_newq X kd P) := by
  obtain ⟨E, y, cc, nL, ret, d, mc, ms, Post⟩ := X
  intro lv st h k n hs
  unfold s_newq at hs
  split at hs
  · obtain ⟨N, rfl, h2, h3, h4, h5⟩ := hs
    intro p e s m args below meth c H locs ls hx hb hml hr hown hlk hnm hK hz hW hS hl
    have hN : N < 2 ^ 31 := by omega
    refine W.anew hx hb hown (hK.1.use hcl rfl) (hK.1.use hw rfl) rfl hdg rfl (nI_pos hN) (by rw [nI_clamp hN]; omega) h3 (by rw [nI_clamp hN]; exact h4) fun cA kA comp f1 f2 f3 f4 => ?_
    rw [nI_clamp hN]
    have hra := (hK.2.2.1 kd hk).2
    rw [hty] at hra
    obtain ⟨kA', comp', k1, k2, k3, k4⟩ := hra
    have hcA : cA = E.2.2.1 kd := Option.some.inj (f1.symm.trans k4)
    subst hcA
    generalize hH1 : H.push ({ cls := E.2.2.1 kd, slots := Array.replicate N .null, vm := .none } : Cell) = H1
    have z1 : H1.size = H.size + 1 := by rw [← hH1, Array.size_push]
    have e1 : H1[H.size]? = some (arrV (E.2.2.1 kd) N (fun _ => .null)) := by rw [← hH1, Array.getElem?_push_size, ← arrV_new]
    have o1 : ∀ q : Nat, q < H.size → H1[q]? = H[q]? := fun q hq => by rw [← hH1, Array.getElem?_push, if_neg (Nat.ne_of_lt hq)]
    have hg : (.ref H.size : Value) = .ref h.1 := by rw [hW.1]
    rw [hg]
    refine hP _ _ _ _ _ h5 p e s m args below meth c H1 locs ls hx hb hml hr hown hlk hnm hK hz (hW.new z1 o1 ⟨by rw [← hW.1]; exact hW.2.1, hk, ?_⟩) ⟨Nat.le_trans hS.1 (by omega), fun q g1 g2 => (o1 q (Nat.lt_of_lt_of_le g1 hS.1)).trans (hS.2.1 q g1 g2), hS.2.2⟩ hl
    rw [e1]
    rfl
  · exact hs.elim
def s_new (X : mh_X) (ci N : Nat) (fs : List Value) (P : mh_PR) : mh_PR := fun lv st h k n => k + 1 ≤ mh_mc X ∧ n + N ≤ mh_ms X ∧ P lv (.ref h.1 :: st) (mh_new h (.inr (.inl (ci, fs)))) (k + 1) (n + N)
theorem sn_new {ci N : Nat} {fs : List Value} {C : String} {T : u_T} {ty : Nat → FieldType} (hC : mh_CL ci C T N ty) (hcl : Cond.classLink X.2.1.cls idx C ∈ lw_tbl) (hin : Cond.instantiable C N ∈ lw_tbl) (hini : Cond.initialized C ∈ lw_tbl) (hfs : ∀ j, j < N → defaultValue (ty j) = vp_V fs j) (hdg : decode X.2.2.1 pc = .ok (.new idx, 3)) (hP : mh_S X (pc + 3) P) : mh_S X pc (s_new X ci N fs P) := by
  obtain ⟨E, y, cc, nL, ret, d, mc, ms, Post⟩ := X
  intro lv st h k n hs
  obtain ⟨h3, h4, h5⟩ := hs
  intro p e s m args below meth c H locs ls hx hb hml hr hown hlk hnm hK hz hW hS hl
  have hKn := hK.2.1 ci _ hC.1
  refine W.newcK hx hb hown (hK.1.use hcl rfl) (hK.1.use hin rfl) (hK.1.use hini rfl) rfl hdg h3 h4 hKn.2.1 hW.1.symm fun H1 kC hkC e1 z1 o1 => ?_
  have hz1 : H1.size = H.size + 1 := by rw [z1, hW.1]
  refine hP _ _ _ _ _ h5 p e s m args below meth c H1 locs ls hx hb hml hr hown hlk hnm hK hz (hW.new hz1 (fun q hq => o1 q (by rw [hW.1]; exact hq)) ⟨by rw [← hW.1]; exact hW.2.1, ?_⟩) ⟨Nat.le_trans hS.1 (by omega), fun q g1 g2 => (o1 q (by rw [hW.1]; exact Nat.lt_of_lt_of_le g1 hS.1)).trans (hS.2.1 q g1 g2), hS.2.2⟩ hl
  rw [← hW.1]
  exact ⟨_, hC.1, (u_born ty (mh_lays hC hK.1 (args := args)) (fun _ h => h) hKn hkC e1 hC.2.1).to hfs⟩
def s_oi (X : mh_X) (P : mh_PR) : mh_PR := fun lv st h k n => match st with
  | .ref _ :: r => 1 ≤ mh_d X ∧ r.length ≤ 4 ∧ P lv r h k n
  | _ => False
theorem sn_oi (hl0 : Cond.methodLink X.2.1.cls idx objectInit ∈ lw_tbl) (hi0 : Cond.instanceMethod objectInit ∈ lw_tbl) (hc0 : Cond.code objectInit ⟨#[0xb1]⟩ 1 none ∈ lw_tbl) (hdg : decode X.2.2.1 pc = .ok (.invokespecial idx, 3)) (hP : mh_S X (pc + 3) P) : mh_S X pc (s_oi X P) := by
  obtain ⟨E, y, cc, nL, ret, d, mc, ms, Post⟩ := X
  intro lv st h k n hs
  unfold s_oi at hs
  split at hs
  · obtain ⟨h1, h2, h3⟩ := hs
    intro p e s m args below meth c H locs ls hx hb hml hr hown hlk hnm hK hz hW hS hl
    refine W.objInit hx hb hown (hK.1.use hl0 rfl) (hK.1.use hi0 rfl) (hK.1.use hc0 rfl) rfl (by rw [hml]; exact hl.1) rfl hdg h1 ?_ (hP _ _ _ _ _ h3 p e s m args below meth c H locs ls hx hb hml hr hown hlk hnm hK hz hW hS hl)
    have h1 : 1 ≤ d := h1
    have := lv_room (m := m) (pc := pc) (ls := ls) (rest := lv.filterMap id) (mh_stw _ h2)
    show _ ≤ 41 * d + 32
    have e9 : (F0 m pc ls (lv.filterMap id)).monitorRoom = 0 := rfl
    have e8 : ∀ z, (F0 m pc ls z).monitorRoom = 0 := fun _ => rfl
    rw [e9] at this
    simp only [e8]
    omega
  · exact hs.elim
end MHN
/-! calls -/
/-- A METHOD'S CONTRACT: called with these arguments over this heap, with so many frames, cells and slots at most, it comes back with an answer and a heap as told -/
def mh_M (E : mh_E) (d mc ms : Nat) (y : MethodName) (args : List Value) (h : mh_H) (Post : Option Value → mh_H → Prop) : Prop :=
  ∃ (cc : ByteArray) (nL : Nat) (ret : Option FieldType), Cond.code y cc nL ret ∈ lw_tbl ∧ (nL ≤ 22 ∧ (y.name = "<init>" → ret = none)) ∧ Met E.1 y [Cond.code y cc nL ret] (mh_R d mc ms) (va_Pc args (fun U => mh_K E U ∧ mh_P E U h U.heap)) (mh_Q E Post) mc ms (mh_A E)
theorem mh_M.of {E : mh_E} {d mc ms : Nat} {y : MethodName} {cc : ByteArray} {nL : Nat} {ret : Option FieldType} {args : List Value} {h : mh_H} {Post : Option Value → mh_H → Prop} {lv : List (Option Value)} (hc : Cond.code y cc nL ret ∈ lw_tbl) (hn : nL ≤ 22 ∧ (y.name = "<init>" → ret = none)) (hy : plainName y.cls = true) (hl : lv_args 0 args = mh_al 0 lv) (hs : (lg_sl args).length ≤ nL) (hG : mh_G (E, y, cc, nL, ret, d, mc, ms, Post) 0 lv [] h 0 0) : mh_M E d mc ms y args h Post := by
  refine ⟨cc, nL, ret, hc, hn, ?_⟩
  refine Met.ofW (cc := cc) (maxL := nL) (ret := ret) hy rfl ?_
  intro p e s m args' below meth c s₁ B hml hv
  obtain ⟨rfl, hK, hW⟩ := hv
  rw [lg_entry_eq]
  have hle := lv_entry args (n := nL) hs
  rw [hl] at hle
  exact hG p e s m _ below meth c s.heap [] _ B.exec B.bytes hml B.returns (findClass_of_methodNamed B.named) B.notSynchronized (name_of_methodNamed B.named B.method).1 hK (by rw [← hW.1]; exact hW.2.1) hW va_S.rf hle
theorem mh_blind {E : mh_E} {args : List Value} {h : mh_H} : FrameBlind (va_Pc args (fun U => mh_K E U ∧ mh_P E U h U.heap)) := by
  intro a U g mk q
  exact ⟨q.1, mh_K.moved (s := U) (U := U.calling g mk a) (State.WarmedH.refl U) q.2.1, mh_P.moved (u := U) (U := U.calling g mk a) (Vm.Alike.refl U.vm) q.2.2⟩
def mh_pop : Nat → List Value → List Value → (List Value → List Value → Prop) → Prop
  | 0, acc, st, K => K acc st
  | _ + 1, _, [], _ => False
  | j + 1, acc, v :: st, K => mh_pop j (v :: acc) st K
theorem mh_pop_spec : ∀ (j : Nat) (acc st : List Value) (K : List Value → List Value → Prop), mh_pop j acc st K → ∃ As rest, st = As.reverse ++ rest ∧ As.length = j ∧ K (As ++ acc) rest
  | 0, acc, st, K, h => ⟨[], st, rfl, rfl, h⟩
  | j + 1, acc, [], K, h => h.elim
  | j + 1, acc, v :: st, K, h => by
    obtain ⟨As, rest, h1, h2, h3⟩ := mh_pop_spec j (v :: acc) st K h
    refine ⟨As ++ [v], rest, by simp [h1], by simp [h2], by simpa using h3⟩
theorem mh_ofRun {p : Program} {e : Env} {s : State} {m : MethodId} {args : Array Value} {below : List Frame} {meth : Method} {c : Code} {H : Heap} {locs : List Loc} {ls : Array Slot} {E : mh_E} {R : Room} {Q : State → Prop} {k n mc' ms' pc : Nat} {st rest : List Value} {a0 : Array Value} {Q' : Option Value → mh_H → Prop}
    (run : va_Run p E.1 e R s m args below meth c H locs k n mc' ms' (F0 m pc ls st) rest (mh_Q E Q' a0) (mh_A E)) (hS : va_S (mh_A E) s.heap H locs)
    (kk : ∀ (v : Option Value) (h' : mh_H) (H1 : Heap) (locs1 : List Loc), Q' v h' → mh_P E s h' H1 → va_S (mh_A E) s.heap H1 locs1 → W p E.1 e R s m args below meth c H1 locs1 (k + mc') (n + ms') Q (F0 m (pc + 3) ls (v.toList ++ rest))) : W p E.1 e R s m args below meth c H locs k n Q (F0 m pc ls st) := by
  intro T hT X
  obtain ⟨v, st₀, t, T', L, h0, X', hL, e1, e2, hq, goes⟩ := run T hT X
  obtain ⟨v', h', hv, hpost, hP', hz, hk⟩ := hq
  cases hv
  rw [h0] at hz hk
  obtain ⟨t2, a1, b1⟩ := kk v h' T'.heap (locs ++ L) hpost (by rw [e1]; exact hP'.moved (by rw [← e2]; exact X'.warmed.alike.symm))
    ⟨Nat.le_trans hS.1 (by rw [e1]; exact hz), fun q h1 h2 => by rw [e1, hk q (Nat.lt_of_lt_of_le h1 hS.1) h2]; exact hS.2.1 q h1 h2, fun q hq => by
      rcases List.mem_append.mp hq with h | h
      · exact hS.2.2 q h
      · exact hL q h⟩ T' rfl X'
  exact ⟨t2, goes t2 a1, b1⟩
section MHC
variable {X : mh_X} {pc idx : Nat} {P : mh_PR}
/-- a call's own conditions: a contract of the callee, room for it -/
def mh_cl (X : mh_X) (y : MethodName) (As rest : List Value) (P : mh_PR) : mh_PR := fun lv _ h k n => ∃ (d' mc' ms' : Nat) (Q : Option Value → mh_H → Prop), mh_M X.1 d' mc' ms' y As h Q ∧ d' < mh_d X ∧ k + mc' ≤ mh_mc X ∧ n + ms' ≤ mh_ms X ∧ (rest.map fun v => v.category).sum ≤ 8 ∧ ∀ v h', Q v h' → P lv (v.toList ++ rest) h' (k + mc') (n + ms')
def s_cv (X : mh_X) (y : MethodName) (ci na : Nat) (P : mh_PR) : mh_PR := fun lv st h k n => mh_pop na [] st (fun As r => match r with
  | .ref a :: rest => (∃ fs : List Value, h.2 a = some (.inr (.inl (ci, fs)))) ∧ mh_cl X y (.ref a :: As) rest P lv [] h k n
  | _ => False)
def s_ci (X : mh_X) (y : MethodName) (na : Nat) (P : mh_PR) : mh_PR := fun lv st h k n => mh_pop na [] st (fun As r => match r with
  | .ref a :: rest => mh_cl X y (.ref a :: As) rest P lv [] h k n
  | _ => False)
def s_cs (X : mh_X) (y : MethodName) (na : Nat) (P : mh_PR) : mh_PR := fun lv st h k n => mh_pop na [] st (fun As rest => mh_cl X y As rest P lv [] h k n)
/-- names that are no handle's, and how many arguments -/
def mh_nm (y : MethodName) (na : Nat) : Prop := y.cls ≠ "java/lang/invoke/MethodHandle" ∧ y.cls ≠ "java/lang/invoke/VarHandle" ∧ (parseMethodDescriptor y.desc).map (fun d => d.parameters.length) = some na
theorem mh_nm.len {y : MethodName} {na : Nat} (h : mh_nm y na) : ∀ sig, parseMethodDescriptor y.desc = some sig → na = sig.parameters.length := by
  intro sig h1
  have h2 := h.2.2
  rw [h1] at h2
  exact (Option.some.inj h2).symm
theorem sn_cv {y : MethodName} {ci na : Nat} (hl0 : Cond.methodLink X.2.1.cls idx y ∈ lw_tbl) (hi0 : Cond.instanceMethod y ∈ lw_tbl) (hs0 : Cond.selects y.cls y y ∈ lw_tbl) (hn0 : Cond.initialized y.cls ∈ lw_tbl) (hC : (vwCl[ci]?).map (fun q => q.1) = some y.cls) (hm : mh_nm y na) (hdg : decode X.2.2.1 pc = .ok (.invokevirtual idx, 3)) (hP : mh_S X (pc + 3) P) : mh_S X pc (s_cv X y ci na P) := by
  obtain ⟨E, y0, cc, nL, ret, d, mc, ms, Post⟩ := X
  intro lv st h k n hs
  unfold s_cv at hs
  have hpp := mh_pop_spec _ _ _ _ hs
  clear hs
  obtain ⟨As, r0, rfl, hlen, hs⟩ := hpp
  rw [List.append_nil] at hs
  split at hs
  · rename_i a rest
    obtain ⟨⟨fs, hobj⟩, d9, mc9, ms9, Q, hM, h1, h2, h3, h4, h5⟩ := hs
    obtain ⟨cc9, nL9, ret9, hcode, ⟨hnL, hvi⟩, hMet⟩ := hM
    intro p e s m args below meth c H locs ls hx hb hml hr hown hlk hnm hK hz hW hS hl
    have hcw : ∀ w ∈ [Cond.code y cc9 nL9 ret9], ∀ (a' : Array Value) (U : State), s.WarmedH U.vm → w.before a' U = true := fun w hw a' U hU => by rw [List.mem_singleton.mp hw]; exact (hK.1.moved hU).use hcode rfl
    have hfr : (mh_R d9 mc9 ms9).frames + 1 ≤ (mh_R d mc ms).frames := h1
    have hlo : 8 + (nL9 + 11) + (mh_R d9 mc9 ms9).locals ≤ (mh_R d mc ms).locals := by show 8 + (nL9 + 11) + (41 * d9 + 32) ≤ 41 * d + 32; have h1 : d9 < d := h1; omega
    have hpc : ∀ U : State, U.heap = H → s.WarmedH U.vm → mh_K E U ∧ mh_P E U h U.heap := fun U hU hw => ⟨hK.moved hw, by rw [hU]; exact hW.moved hw.alike⟩
    obtain ⟨q9, hq9, hq8⟩ := Option.map_eq_some_iff.mp hC
    obtain ⟨hz9, r9, e9, cell9, g1, g2, g3, -⟩ := hW.2.2.2 _ _ hobj
    have hrcv : ∃ cellB : Cell, H[a]? = some cellB ∧ cellB.vm.isStatics = false ∧ s.vm.findClass y.cls = some cellB.cls := ⟨cell9, g1, by rw [g3]; rfl, by rw [g2, ← hq8]; exact (hK.2.1 ci q9 hq9).2.1⟩
    refine mh_ofRun (va_runV (As := As) (rest := rest) ⟨hx, hb, hml, hown, (fun w hw => (List.not_mem_nil hw).elim : ∀ w ∈ ([] : List Cond), w.before args s = true)⟩ hMet ⟨⟨rfl, rfl, hfr, hlo, hcw, List.mem_singleton.mpr rfl, hK.1.use hcode rfl, hK.1.use hn0 rfl, ⟨hm.1, hm.2.1⟩, hm.len, hK.1.use hl0 rfl⟩, hK.1.use hi0 rfl, hK.1.use hs0 rfl⟩ ⟨mh_blind, hrcv, fun U hU hw => ⟨rfl, hpc U hU hw⟩⟩ rfl hlen hl.1 rfl (lv_room h4) hdg ⟨h2, h3⟩) hS (fun v h9 H1 locs1 hq hW hS => ?_)
    exact hP _ _ _ _ _ (h5 v h9 hq) p e s m args below meth c H1 locs1 ls hx hb hml hr hown hlk hnm hK hz hW hS hl
  · exact hs.elim
theorem sn_cs {y : MethodName} {na : Nat} (hl0 : Cond.methodLink X.2.1.cls idx y ∈ lw_tbl) (hs0 : Cond.static y ∈ lw_tbl) (hn0 : Cond.initialized y.cls ∈ lw_tbl) (hm : mh_nm y na) (hdg : decode X.2.2.1 pc = .ok (.invokestatic idx, 3)) (hP : mh_S X (pc + 3) P) : mh_S X pc (s_cs X y na P) := by
  obtain ⟨E, y0, cc, nL, ret, d, mc, ms, Post⟩ := X
  intro lv st h k n hs
  unfold s_cs at hs
  have hpp := mh_pop_spec _ _ _ _ hs
  clear hs
  obtain ⟨As, r0, rfl, hlen, hs⟩ := hpp
  rw [List.append_nil] at hs
  obtain ⟨d9, mc9, ms9, Q, hM, h1, h2, h3, h4, h5⟩ := hs
  obtain ⟨cc9, nL9, ret9, hcode, ⟨hnL, hvi⟩, hMet⟩ := hM
  intro p e s m args below meth c H locs ls hx hb hml hr hown hlk hnm hK hz hW hS hl
  have hcw : ∀ w ∈ [Cond.code y cc9 nL9 ret9], ∀ (a' : Array Value) (U : State), s.WarmedH U.vm → w.before a' U = true := fun w hw a' U hU => by rw [List.mem_singleton.mp hw]; exact (hK.1.moved hU).use hcode rfl
  have hfr : (mh_R d9 mc9 ms9).frames + 1 ≤ (mh_R d mc ms).frames := h1
  have hlo : 8 + (nL9 + 11) + (mh_R d9 mc9 ms9).locals ≤ (mh_R d mc ms).locals := by show 8 + (nL9 + 11) + (41 * d9 + 32) ≤ 41 * d + 32; have h1 : d9 < d := h1; omega
  have hpc : ∀ U : State, U.heap = H → s.WarmedH U.vm → mh_K E U ∧ mh_P E U h U.heap := fun U hU hw => ⟨hK.moved hw, by rw [hU]; exact hW.moved hw.alike⟩
  refine mh_ofRun (va_runS (As := As) (rest := r0) ⟨hx, hb, hml, hown, (fun w hw => (List.not_mem_nil hw).elim : ∀ w ∈ ([] : List Cond), w.before args s = true)⟩ hMet ⟨⟨rfl, rfl, hfr, hlo, hcw, List.mem_singleton.mpr rfl, hK.1.use hcode rfl, hK.1.use hn0 rfl, ⟨hm.1, hm.2.1⟩, hm.len, hK.1.use hl0 rfl⟩, hK.1.use hs0 rfl⟩ ⟨mh_blind, fun U hU hw => ⟨rfl, hpc U hU hw⟩⟩ rfl hlen hl.1 rfl (lv_room h4) hdg ⟨h2, h3⟩) hS (fun v h9 H1 locs1 hq hW hS => ?_)
  exact hP _ _ _ _ _ (h5 v h9 hq) p e s m args below meth c H1 locs1 ls hx hb hml hr hown hlk hnm hK hz hW hS hl
theorem sn_cvN {y : MethodName} {host : String} {ci na : Nat} (hl0 : Cond.methodLinkNest X.2.1.cls idx y host ∈ lw_tbl) (hi0 : Cond.instanceMethod y ∈ lw_tbl) (hs0 : Cond.selects y.cls y y ∈ lw_tbl) (hn0 : Cond.initialized y.cls ∈ lw_tbl) (hC : (vwCl[ci]?).map (fun q => q.1) = some y.cls) (hm : mh_nm y na) (hdg : decode X.2.2.1 pc = .ok (.invokevirtual idx, 3)) (hP : mh_S X (pc + 3) P) : mh_S X pc (s_cv X y ci na P) := by
  obtain ⟨E, y0, cc, nL, ret, d, mc, ms, Post⟩ := X
  intro lv st h k n hs
  unfold s_cv at hs
  have hpp := mh_pop_spec _ _ _ _ hs
  clear hs
  obtain ⟨As, r0, rfl, hlen, hs⟩ := hpp
  rw [List.append_nil] at hs
  split at hs
  · rename_i a rest
    obtain ⟨⟨fs, hobj⟩, d9, mc9, ms9, Q, hM, h1, h2, h3, h4, h5⟩ := hs
    obtain ⟨cc9, nL9, ret9, hcode, ⟨hnL, hvi⟩, hMet⟩ := hM
    intro p e s m args below meth c H locs ls hx hb hml hr hown hlk hnm hK hz hW hS hl
    have hcw : ∀ w ∈ [Cond.code y cc9 nL9 ret9], ∀ (a' : Array Value) (U : State), s.WarmedH U.vm → w.before a' U = true := fun w hw a' U hU => by rw [List.mem_singleton.mp hw]; exact (hK.1.moved hU).use hcode rfl
    have hfr : (mh_R d9 mc9 ms9).frames + 1 ≤ (mh_R d mc ms).frames := h1
    have hlo : 8 + (nL9 + 11) + (mh_R d9 mc9 ms9).locals ≤ (mh_R d mc ms).locals := by show 8 + (nL9 + 11) + (41 * d9 + 32) ≤ 41 * d + 32; have h1 : d9 < d := h1; omega
    have hpc : ∀ U : State, U.heap = H → s.WarmedH U.vm → mh_K E U ∧ mh_P E U h U.heap := fun U hU hw => ⟨hK.moved hw, by rw [hU]; exact hW.moved hw.alike⟩
    obtain ⟨q9, hq9, hq8⟩ := Option.map_eq_some_iff.mp hC
    obtain ⟨hz9, r9, e9, cell9, g1, g2, g3, -⟩ := hW.2.2.2 _ _ hobj
    have hrcv : ∃ cellB : Cell, H[a]? = some cellB ∧ cellB.vm.isStatics = false ∧ s.vm.findClass y.cls = some cellB.cls := ⟨cell9, g1, by rw [g3]; rfl, by rw [g2, ← hq8]; exact (hK.2.1 ci q9 hq9).2.1⟩
    refine mh_ofRun (va_runVN (As := As) (rest := rest) ⟨hx, hb, hml, hown, (fun w hw => (List.not_mem_nil hw).elim : ∀ w ∈ ([] : List Cond), w.before args s = true)⟩ hMet ⟨⟨⟨rfl, rfl, hfr, hlo, hcw, List.mem_singleton.mpr rfl⟩, hK.1.use hcode rfl, hK.1.use hn0 rfl, ⟨hm.1, hm.2.1⟩, hm.len, hK.1.use hl0 rfl⟩, hK.1.use hi0 rfl, hK.1.use hs0 rfl⟩ ⟨mh_blind, hrcv, fun U hU hw => ⟨rfl, hpc U hU hw⟩⟩ rfl hlen hl.1 rfl (lv_room h4) hdg ⟨h2, h3⟩) hS (fun v h9 H1 locs1 hq hW hS => ?_)
    exact hP _ _ _ _ _ (h5 v h9 hq) p e s m args below meth c H1 locs1 ls hx hb hml hr hown hlk hnm hK hz hW hS hl
  · exact hs.elim
theorem sn_csN {y : MethodName} {host : String} {na : Nat} (hl0 : Cond.methodLinkNest X.2.1.cls idx y host ∈ lw_tbl) (hs0 : Cond.static y ∈ lw_tbl) (hn0 : Cond.initialized y.cls ∈ lw_tbl) (hm : mh_nm y na) (hdg : decode X.2.2.1 pc = .ok (.invokestatic idx, 3)) (hP : mh_S X (pc + 3) P) : mh_S X pc (s_cs X y na P) := by
  obtain ⟨E, y0, cc, nL, ret, d, mc, ms, Post⟩ := X
  intro lv st h k n hs
  unfold s_cs at hs
  have hpp := mh_pop_spec _ _ _ _ hs
  clear hs
  obtain ⟨As, r0, rfl, hlen, hs⟩ := hpp
  rw [List.append_nil] at hs
  obtain ⟨d9, mc9, ms9, Q, hM, h1, h2, h3, h4, h5⟩ := hs
  obtain ⟨cc9, nL9, ret9, hcode, ⟨hnL, hvi⟩, hMet⟩ := hM
  intro p e s m args below meth c H locs ls hx hb hml hr hown hlk hnm hK hz hW hS hl
  have hcw : ∀ w ∈ [Cond.code y cc9 nL9 ret9], ∀ (a' : Array Value) (U : State), s.WarmedH U.vm → w.before a' U = true := fun w hw a' U hU => by rw [List.mem_singleton.mp hw]; exact (hK.1.moved hU).use hcode rfl
  have hfr : (mh_R d9 mc9 ms9).frames + 1 ≤ (mh_R d mc ms).frames := h1
  have hlo : 8 + (nL9 + 11) + (mh_R d9 mc9 ms9).locals ≤ (mh_R d mc ms).locals := by show 8 + (nL9 + 11) + (41 * d9 + 32) ≤ 41 * d + 32; have h1 : d9 < d := h1; omega
  have hpc : ∀ U : State, U.heap = H → s.WarmedH U.vm → mh_K E U ∧ mh_P E U h U.heap := fun U hU hw => ⟨hK.moved hw, by rw [hU]; exact hW.moved hw.alike⟩
  refine mh_ofRun (va_runSN (As := As) (rest := r0) ⟨hx, hb, hml, hown, (fun w hw => (List.not_mem_nil hw).elim : ∀ w ∈ ([] : List Cond), w.before args s = true)⟩ hMet ⟨⟨⟨rfl, rfl, hfr, hlo, hcw, List.mem_singleton.mpr rfl⟩, hK.1.use hcode rfl, hK.1.use hn0 rfl, ⟨hm.1, hm.2.1⟩, hm.len, hK.1.use hl0 rfl⟩, hK.1.use hs0 rfl, trivial⟩ ⟨mh_blind, fun U hU hw => ⟨rfl, hpc U hU hw⟩⟩ rfl hlen hl.1 rfl (lv_room h4) hdg ⟨h2, h3⟩) hS (fun v h9 H1 locs1 hq hW hS => ?_)
  exact hP _ _ _ _ _ (h5 v h9 hq) p e s m args below meth c H1 locs1 ls hx hb hml hr hown hlk hnm hK hz hW hS hl
theorem sn_ci {y : MethodName} {na : Nat} (hl0 : Cond.methodLink X.2.1.cls idx y ∈ lw_tbl) (hi0 : Cond.instanceMethod y ∈ lw_tbl) (hn0 : Cond.initialized y.cls ∈ lw_tbl) (hy1 : y.name = "<init>") (hm : mh_nm y na) (hdg : decode X.2.2.1 pc = .ok (.invokespecial idx, 3)) (hP : mh_S X (pc + 3) P) : mh_S X pc (s_ci X y na P) := by
  obtain ⟨E, y0, cc, nL, ret, d, mc, ms, Post⟩ := X
  intro lv st h k n hs
  unfold s_ci at hs
  have hpp := mh_pop_spec _ _ _ _ hs
  clear hs
  obtain ⟨As, r0, rfl, hlen, hs⟩ := hpp
  rw [List.append_nil] at hs
  split at hs
  · rename_i a rest
    obtain ⟨d9, mc9, ms9, Q, hM, h1, h2, h3, h4, h5⟩ := hs
    obtain ⟨cc9, nL9, ret9, hcode, ⟨hnL, hvi⟩, hMet⟩ := hM
    intro p e s m args below meth c H locs ls hx hb hml hr hown hlk hnm hK hz hW hS hl
    have hcw : ∀ w ∈ [Cond.code y cc9 nL9 ret9], ∀ (a' : Array Value) (U : State), s.WarmedH U.vm → w.before a' U = true := fun w hw a' U hU => by rw [List.mem_singleton.mp hw]; exact (hK.1.moved hU).use hcode rfl
    have hfr : (mh_R d9 mc9 ms9).frames + 1 ≤ (mh_R d mc ms).frames := h1
    have hlo : 8 + (nL9 + 11) + (mh_R d9 mc9 ms9).locals ≤ (mh_R d mc ms).locals := by show 8 + (nL9 + 11) + (41 * d9 + 32) ≤ 41 * d + 32; have h1 : d9 < d := h1; omega
    have hpc : ∀ U : State, U.heap = H → s.WarmedH U.vm → mh_K E U ∧ mh_P E U h U.heap := fun U hU hw => ⟨hK.moved hw, by rw [hU]; exact hW.moved hw.alike⟩
    have hret : ret9 = none := hvi hy1
    subst hret
    refine mh_ofRun (va_runI (As := As) (rest := rest) ⟨hx, hb, hml, hown, (fun w hw => (List.not_mem_nil hw).elim : ∀ w ∈ ([] : List Cond), w.before args s = true)⟩ hMet ⟨⟨rfl, rfl, hfr, hlo, hcw, List.mem_singleton.mpr rfl, hK.1.use hcode rfl, hK.1.use hn0 rfl, ⟨hm.1, hm.2.1⟩, hm.len, hK.1.use hl0 rfl⟩, hy1, hK.1.use hi0 rfl⟩ ⟨mh_blind, fun U hU hw => ⟨rfl, hpc U hU hw⟩⟩ rfl hlen hl.1 rfl (lv_room h4) hdg ⟨h2, h3⟩) hS (fun v h9 H1 locs1 hq hW hS => ?_)
    exact hP _ _ _ _ _ (h5 v h9 hq) p e s m args below meth c H1 locs1 ls hx hb hml hr hown hlk hnm hK hz hW hS hl
  · exact hs.elim
theorem sn_ciN {y : MethodName} {host : String} {na : Nat} (hl0 : Cond.methodLinkNest X.2.1.cls idx y host ∈ lw_tbl) (hi0 : Cond.instanceMethod y ∈ lw_tbl) (hn0 : Cond.initialized y.cls ∈ lw_tbl) (hy1 : y.name = "<init>") (hm : mh_nm y na) (hdg : decode X.2.2.1 pc = .ok (.invokespecial idx, 3)) (hP : mh_S X (pc + 3) P) : mh_S X pc (s_ci X y na P) := by
  obtain ⟨E, y0, cc, nL, ret, d, mc, ms, Post⟩ := X
  intro lv st h k n hs
  unfold s_ci at hs
  have hpp := mh_pop_spec _ _ _ _ hs
  clear hs
  obtain ⟨As, r0, rfl, hlen, hs⟩ := hpp
  rw [List.append_nil] at hs
  split at hs
  · rename_i a rest
    obtain ⟨d9, mc9, ms9, Q, hM, h1, h2, h3, h4, h5⟩ := hs
    obtain ⟨cc9, nL9, ret9, hcode, ⟨hnL, hvi⟩, hMet⟩ := hM
    intro p e s m args below meth c H locs ls hx hb hml hr hown hlk hnm hK hz hW hS hl
    have hcw : ∀ w ∈ [Cond.code y cc9 nL9 ret9], ∀ (a' : Array Value) (U : State), s.WarmedH U.vm → w.before a' U = true := fun w hw a' U hU => by rw [List.mem_singleton.mp hw]; exact (hK.1.moved hU).use hcode rfl
    have hfr : (mh_R d9 mc9 ms9).frames + 1 ≤ (mh_R d mc ms).frames := h1
    have hlo : 8 + (nL9 + 11) + (mh_R d9 mc9 ms9).locals ≤ (mh_R d mc ms).locals := by show 8 + (nL9 + 11) + (41 * d9 + 32) ≤ 41 * d + 32; have h1 : d9 < d := h1; omega
    have hpc : ∀ U : State, U.heap = H → s.WarmedH U.vm → mh_K E U ∧ mh_P E U h U.heap := fun U hU hw => ⟨hK.moved hw, by rw [hU]; exact hW.moved hw.alike⟩
    have hret : ret9 = none := hvi hy1
    subst hret
    refine mh_ofRun (va_runIN (As := As) (rest := rest) ⟨hx, hb, hml, hown, (fun w hw => (List.not_mem_nil hw).elim : ∀ w ∈ ([] : List Cond), w.before args s = true)⟩ hMet ⟨⟨⟨rfl, rfl, hfr, hlo, hcw, List.mem_singleton.mpr rfl⟩, hK.1.use hcode rfl, hK.1.use hn0 rfl, ⟨hm.1, hm.2.1⟩, hm.len, hK.1.use hl0 rfl⟩, hy1, hK.1.use hi0 rfl⟩ ⟨mh_blind, fun U hU hw => ⟨rfl, hpc U hU hw⟩⟩ rfl hlen hl.1 rfl (lv_room h4) hdg ⟨h2, h3⟩) hS (fun v h9 H1 locs1 hq hW hS => ?_)
    exact hP _ _ _ _ _ (h5 v h9 hq) p e s m args below meth c H1 locs1 ls hx hb hml hr hown hlk hnm hK hz hW hS hl
  · exact hs.elim
end MHC
/-! ends -/
section MHE
variable {X : mh_X} {pc idx : Nat} {P : mh_PR}
def s_iret (X : mh_X) : mh_PR := fun _ st h k n => match st with
  | [.int x] => mh_po X (some (.int x)) h ∧ k ≤ mh_mc X ∧ n ≤ mh_ms X
  | _ => False
def s_zret (X : mh_X) : mh_PR := fun _ st h k n => match st with
  | [.int x] => (x = 0 ∨ x = 1) ∧ mh_po X (some (.int x)) h ∧ k ≤ mh_mc X ∧ n ≤ mh_ms X
  | _ => False
def s_aret (X : mh_X) : mh_PR := fun _ st h k n => match st with
  | [.ref a] => mh_po X (some (.ref a)) h ∧ k ≤ mh_mc X ∧ n ≤ mh_ms X
  | [.null] => mh_po X (some .null) h ∧ k ≤ mh_mc X ∧ n ≤ mh_ms X
  | _ => False
def s_vret (X : mh_X) : mh_PR := fun _ st h k n => match st with
  | [] => mh_po X none h ∧ k ≤ mh_mc X ∧ n ≤ mh_ms X
  | _ => False
theorem sn_iret (hret : X.2.2.2.2.1 = some .int) (hdg : decode X.2.2.1 pc = .ok (.ireturn, 1)) : mh_S X pc (s_iret X) := by
  obtain ⟨E, y, cc, nL, ret, d, mc, ms, Post⟩ := X
  intro lv st h k n hs
  unfold s_iret at hs
  split at hs
  · obtain ⟨h1, h2, h3⟩ := hs
    intro p e s m args below meth c H locs ls hx hb hml hr hown hlk hnm hK hz hW hS hl
    refine W.widen h2 h3 ?_
    exact W.iret hx hb (hr.trans hret) (fun t ht hw => ⟨_, h, rfl, h1, by rw [ht]; exact hW.moved hw.alike, hS.F ht⟩) hS.2.2 hdg hlk
  · exact hs.elim
theorem sn_zret (hret : X.2.2.2.2.1 = some .boolean) (hdg : decode X.2.2.1 pc = .ok (.ireturn, 1)) : mh_S X pc (s_zret X) := by
  obtain ⟨E, y, cc, nL, ret, d, mc, ms, Post⟩ := X
  intro lv st h k n hs
  unfold s_zret at hs
  split at hs
  · obtain ⟨h0, h1, h2, h3⟩ := hs
    intro p e s m args below meth c H locs ls hx hb hml hr hown hlk hnm hK hz hW hS hl
    refine W.widen h2 h3 ?_
    exact W.zret hx hb (hr.trans hret) (by rcases h0 with rfl | rfl <;> rfl) (fun t ht hw => ⟨_, h, rfl, h1, by rw [ht]; exact hW.moved hw.alike, hS.F ht⟩) hS.2.2 hdg hlk
  · exact hs.elim
theorem sn_aret {rt : FieldType} (hret : X.2.2.2.2.1 = some rt) (hrt : (∃ n, rt = .object n) ∨ ∃ t, rt = .array t) (hdg : decode X.2.2.1 pc = .ok (.areturn, 1)) : mh_S X pc (s_aret X) := by
  obtain ⟨E, y, cc, nL, ret, d, mc, ms, Post⟩ := X
  intro lv st h k n hs
  unfold s_aret at hs
  split at hs
  · obtain ⟨h1, h2, h3⟩ := hs
    intro p e s m args below meth c H locs ls hx hb hml hr hown hlk hnm hK hz hW hS hl
    refine W.widen h2 h3 ?_
    exact W.aret hx hb (hr.trans hret) hrt (Or.inr ⟨_, rfl⟩) (fun t ht hw => ⟨_, h, rfl, h1, by rw [ht]; exact hW.moved hw.alike, hS.F ht⟩) hS.2.2 hdg hlk
  · obtain ⟨h1, h2, h3⟩ := hs
    intro p e s m args below meth c H locs ls hx hb hml hr hown hlk hnm hK hz hW hS hl
    refine W.widen h2 h3 ?_
    exact W.aret hx hb (hr.trans hret) hrt (Or.inl rfl) (fun t ht hw => ⟨_, h, rfl, h1, by rw [ht]; exact hW.moved hw.alike, hS.F ht⟩) hS.2.2 hdg hlk
  · exact hs.elim
theorem sn_vret (hret : X.2.2.2.2.1 = none) (hdg : decode X.2.2.1 pc = .ok (.return_, 1)) : mh_S X pc (s_vret X) := by
  obtain ⟨E, y, cc, nL, ret, d, mc, ms, Post⟩ := X
  intro lv st h k n hs
  unfold s_vret at hs
  split at hs
  · obtain ⟨h1, h2, h3⟩ := hs
    intro p e s m args below meth c H locs ls hx hb hml hr hown hlk hnm hK hz hW hS hl
    refine W.widen h2 h3 ?_
    exact W.vret hx hb (hr.trans hret) (fun t ht hw => ⟨_, h, rfl, h1, by rw [ht]; exact hW.moved hw.alike, hS.F ht⟩) hS.2.2 hdg hlk
  · exact hs.elim
/-- the static table ABOVE -/
def s_gs (X : mh_X) (P : mh_PR) : mh_PR := fun lv st h k n => P lv (.ref X.1.2.2.2.2.1 :: st) h k n
theorem sn_gs {host : String} (hl0 : Cond.fieldLinkNest X.2.1.cls idx RX9 "ABOVE" "[I" host ∈ lw_tbl) (hdg : decode X.2.2.1 pc = .ok (.getstatic idx, 3)) (hP : mh_S X (pc + 3) P) : mh_S X pc (s_gs X P) := by
  obtain ⟨E, y, cc, nL, ret, d, mc, ms, Post⟩ := X
  intro lv st h k n hs
  intro p e s m args below meth c H locs ls hx hb hml hr hown hlk hnm hK hz hW hS hl
  obtain ⟨cf, kf, fi, f, a, cell, h1, h2, h3, h4, h5, h6, h7, h8⟩ := hW.2.2.1.1
  exact va_WgetsN hx hb hown (hK.1.use hl0 rfl) h1 h2 h3 h4 h5 (fun e => by rw [e] at h6; cases h6) h7 rfl hdg (hP _ _ _ _ _ hs p e s m args below meth c H locs ls hx hb hml hr hown hlk hnm hK hz hW hS hl)
/-- System.arraycopy of ints -/
def s_ac (X : mh_X) (P : mh_PR) : mh_PR := fun lv st h k n => match st with
  | .int sz :: .int dp :: .ref a1 :: .int sp :: .ref a0 :: r => ∃ (N0 N1 : Nat) (f g : Nat → Int32), h.2 a0 = some (.inl (0, N0, .inl f)) ∧ h.2 a1 = some (.inl (0, N1, .inl g)) ∧ ¬ sp < 0 ∧ ¬ dp < 0 ∧ ¬ sz < 0 ∧ sp.toNatClampNeg + sz.toNatClampNeg ≤ N0 ∧ dp.toNatClampNeg + sz.toNatClampNeg ≤ N1 ∧ 1 ≤ mh_d X ∧ r.length ≤ 4 ∧ P lv r (mh_put h a1 (.inl (0, N1, .inl (va_cpy f g sp.toNatClampNeg dp.toNatClampNeg sz.toNatClampNeg)))) k n
  | _ => False
theorem sn_ac (hl0 : Cond.methodLink X.2.1.cls idx arraycopyName ∈ lw_tbl) (hn0 : Cond.native arraycopyName ∈ lw_tbl) (hs0 : Cond.static arraycopyName ∈ lw_tbl) (hi0 : Cond.initialized "java/lang/System" ∈ lw_tbl) (hdg : decode X.2.2.1 pc = .ok (.invokestatic idx, 3)) (hP : mh_S X (pc + 3) P) : mh_S X pc (s_ac X P) := by
  obtain ⟨E, y, cc, nL, ret, d, mc, ms, Post⟩ := X
  intro lv st h k n0 hs
  unfold s_ac at hs
  split at hs
  · rename_i n dp a sp a0 rest
    obtain ⟨N0, n1, f, g, ha0, ha1, h1, h2, h3, h4, h5, h6, h7, h8⟩ := hs
    intro p e s m args below meth c H locs ls hx hb hml hr hown hlk hnm hK hz hW hS hl
    have nn : ∀ z : Int32, ¬ z < 0 → z.toInt = (z.toNatClampNeg : Int) := by
      intro z hz
      have hz0 : (0 : Int) ≤ z.toInt := by
        have := Int32.not_lt.mp hz
        simpa using Int32.le_iff_toInt_le.mp this
      show z.toInt = ((z.toInt.toNat : Nat) : Int)
      omega
    intro T hT X
    have hc0 : H[a0]? = some (vp_cell (E.2.2.1 0) (N0, .inl f)) := (hW.2.2.2 _ _ ha0).2.2
    have hc1 : H[a]? = some (vp_cell (E.2.2.1 0) (n1, .inl g)) := (hW.2.2.2 _ _ ha1).2.2
    have hza : mh_z E ≤ a := (hW.2.2.2 _ _ ha1).1
    obtain ⟨-, k0, hk0, cm0, hkk0⟩ := (hK.2.2.1 0 (by decide)).1 N0 (fun j => .int (f j))
    obtain ⟨-, k1, hk1, cm1, hkk1⟩ := (hK.2.2.1 0 (by decide)).1 n1 (fun j => .int (g j))
    have h6 : 1 ≤ d := h6
    have hst := mh_stw _ h7
    obtain ⟨vm', X', step⟩ := X.arraycopy hx hown (hK.1.use hl0 rfl) (hK.1.use hn0 rfl) (hK.1.use hs0 rfl) (hK.1.use hi0 rfl) (src := a0) (dst := a) (cs := vp_cell (E.2.2.1 0) (N0, .inl f)) (cd := vp_cell (E.2.2.1 0) (n1, .inl g)) (srcPos := sp) (destPos := dp) (n := n) (by rw [hT]; exact hc0) (by rw [hT]; exact hc1)
      (fun _ h => by cases h) (fun _ h => by cases h) (fun h => by cases h) (fun h => by cases h) hk0 hk1 hkk0 hkk1 (by simp [mh_ty, refKind]) h1 h2 h3
      (by rw [nn sp h1, nn n h3]; show ¬ _ > ((arrV _ N0 (fun j => .int (f j))).slots.size : Int); rw [arrV_size]; omega)
      (by rw [nn dp h2, nn n h3]; show ¬ _ > ((arrV _ n1 (fun j => .int (g j))).slots.size : Int); rw [arrV_size]; omega)
      (fun vm₁ _ i hi => by
        have e : (vp_cell (E.2.2.1 0) (N0, .inl f)).slots.getD (sp.toNatClampNeg + i) .null = .int (f (sp.toNatClampNeg + i)) := by
          show (arrV _ N0 (fun j => .int (f j))).slots.getD _ _ = _
          rw [Array.getD_eq_getD_getElem?, arrV_read _ _ (by omega)]
          rfl
        refine ⟨?_, ?_⟩
        · rw [e]
          rfl
        · rw [e]
          exact trivial)
      (g := F0 m pc ls (.int n :: .int dp :: .ref a :: .int sp :: .ref a0 :: rest)) rfl (by rw [hml]; exact hl.1) (rest := rest) rfl (by rw [hb]; exact hdg) h6 (Nat.le_trans (Nat.add_le_add_right (show 2 * 0 + (rest.map fun v => v.category).sum ≤ 8 by omega) _) (by show 8 + (nativeFrameWords "java/lang/System" "arraycopy" 5 + 11) ≤ 41 * d + 32; exact Nat.le_trans (show 8 + (nativeFrameWords "java/lang/System" "arraycopy" 5 + 11) ≤ 73 by decide) (by omega)))
    have e1 : copied (vp_cell (E.2.2.1 0) (N0, .inl f)) (vp_cell (E.2.2.1 0) (n1, .inl g)) sp dp n = vp_cell (E.2.2.1 0) (n1, .inl (va_cpy f g sp.toNatClampNeg dp.toNatClampNeg n.toNatClampNeg)) := va_copied (fun z => .int z) _ _ f g h4
    rw [e1] at X' step
    have hlt : a < H.size := (Array.getElem?_eq_some_iff.mp hc1).1
    have hheap : ((T.setVm vm').setCell a (vp_cell (E.2.2.1 0) (n1, .inl (va_cpy f g sp.toNatClampNeg dp.toNatClampNeg n.toNatClampNeg)))).heap = H.setIfInBounds a (vp_cell (E.2.2.1 0) (n1, .inl (va_cpy f g sp.toNatClampNeg dp.toNatClampNeg n.toNatClampNeg))) := by rw [← hT]; rfl
    have oq : ∀ q : Nat, q ≠ a → (H.setIfInBounds a (vp_cell (E.2.2.1 0) (n1, .inl (va_cpy f g sp.toNatClampNeg dp.toNatClampNeg n.toNatClampNeg))))[q]? = H[q]? := fun q hq => by simp [Array.getElem?_setIfInBounds, Ne.symm hq]
    obtain ⟨t, a1, b1⟩ := hP _ _ _ _ _ h8 p e s m args below meth c _ _ ls hx hb hml hr hown hlk hnm hK hz (hW.put hza (by simp) oq ⟨hza, (by decide : 0 < 8), by simp [Array.getElem?_setIfInBounds, hlt]⟩) ⟨by simp; exact hS.1, fun q g1 g2 => by
        rw [oq q (fun e => g2 (by rw [e]; exact hza))]
        exact hS.2.1 q g1 g2, fun q hq => by
        rcases List.mem_append.mp hq with h | h
        · exact hS.2.2 q h
        · obtain ⟨z, -, hz⟩ := List.mem_map.mp h
          rw [← hz]
          exact hza⟩ hl _ hheap X'
    exact ⟨t, step t a1, b1⟩
  · exact hs.elim
/-- Math.max, min, abs -/
def s_mm (X : mh_X) (f : Int32 → Int32 → Int32) (P : mh_PR) : mh_PR := fun lv st h k n => match st with
  | .int y :: .int x :: r => 1 ≤ mh_d X ∧ r.length ≤ 4 ∧ k ≤ mh_mc X ∧ n ≤ mh_ms X ∧ P lv (.int (f x y) :: r) h k n
  | _ => False
def s_ma (X : mh_X) (P : mh_PR) : mh_PR := fun lv st h k n => match st with
  | .int x :: r => 1 ≤ mh_d X ∧ r.length ≤ 4 ∧ k ≤ mh_mc X ∧ n ≤ mh_ms X ∧ P lv (.int (if 0 ≤ x then x else 0 - x) :: r) h k n
  | _ => False
theorem sn_mmax (hl0 : Cond.methodLink X.2.1.cls idx Lib.Math.max.name ∈ lw_tbl) (hs0 : Cond.static Lib.Math.max.name ∈ lw_tbl) (hi0 : Cond.initialized "java/lang/Math" ∈ lw_tbl) (hc0 : Cond.code Lib.Math.max.name Lib.Math.max.code 2 (some .int) ∈ lw_tbl) (hdg : decode X.2.2.1 pc = .ok (.invokestatic idx, 3)) (hP : mh_S X (pc + 3) P) : mh_S X pc (s_mm X (fun x y => if x < y then y else x) P) := by
  obtain ⟨E, y, cc, nL, ret, d, mc, ms, Post⟩ := X
  intro lv st h k n hs
  unfold s_mm at hs
  split at hs
  · obtain ⟨h1, h2, h3, h4, h5⟩ := hs
    intro p e s m args below meth c H locs ls hx hb hml hr hown hlk hnm hK hz hW hS hl
    have h1 : 1 ≤ d := h1
    have hst := mh_stw _ h2
    exact va_mmax hx hb (hml.trans hl.1.symm) hown (hK.1.use hl0 rfl) (hK.1.use hs0 rfl) (hK.1.use hi0 rfl) (hK.1.use hc0 rfl) h1 (by show _ ≤ 41 * d + 32; omega) h3 h4 hdg (hP _ _ _ _ _ h5 p e s m args below meth c H locs ls hx hb hml hr hown hlk hnm hK hz hW hS hl)
  · exact hs.elim
theorem sn_mmin (hl0 : Cond.methodLink X.2.1.cls idx Lib.Math.min.name ∈ lw_tbl) (hs0 : Cond.static Lib.Math.min.name ∈ lw_tbl) (hi0 : Cond.initialized "java/lang/Math" ∈ lw_tbl) (hc0 : Cond.code Lib.Math.min.name Lib.Math.min.code 2 (some .int) ∈ lw_tbl) (hdg : decode X.2.2.1 pc = .ok (.invokestatic idx, 3)) (hP : mh_S X (pc + 3) P) : mh_S X pc (s_mm X (fun x y => if y < x then y else x) P) := by
  obtain ⟨E, y, cc, nL, ret, d, mc, ms, Post⟩ := X
  intro lv st h k n hs
  unfold s_mm at hs
  split at hs
  · obtain ⟨h1, h2, h3, h4, h5⟩ := hs
    intro p e s m args below meth c H locs ls hx hb hml hr hown hlk hnm hK hz hW hS hl
    have h1 : 1 ≤ d := h1
    have hst := mh_stw _ h2
    exact va_mmin hx hb (hml.trans hl.1.symm) hown (hK.1.use hl0 rfl) (hK.1.use hs0 rfl) (hK.1.use hi0 rfl) (hK.1.use hc0 rfl) h1 (by show _ ≤ 41 * d + 32; omega) h3 h4 hdg (hP _ _ _ _ _ h5 p e s m args below meth c H locs ls hx hb hml hr hown hlk hnm hK hz hW hS hl)
  · exact hs.elim
theorem sn_mabs (hl0 : Cond.methodLink X.2.1.cls idx Lib.Math.abs.name ∈ lw_tbl) (hs0 : Cond.static Lib.Math.abs.name ∈ lw_tbl) (hi0 : Cond.initialized "java/lang/Math" ∈ lw_tbl) (hc0 : Cond.code Lib.Math.abs.name Lib.Math.abs.code 1 (some .int) ∈ lw_tbl) (hdg : decode X.2.2.1 pc = .ok (.invokestatic idx, 3)) (hP : mh_S X (pc + 3) P) : mh_S X pc (s_ma X P) := by
  obtain ⟨E, y, cc, nL, ret, d, mc, ms, Post⟩ := X
  intro lv st h k n hs
  unfold s_ma at hs
  split at hs
  · obtain ⟨h1, h2, h3, h4, h5⟩ := hs
    intro p e s m args below meth c H locs ls hx hb hml hr hown hlk hnm hK hz hW hS hl
    have h1 : 1 ≤ d := h1
    have hst := mh_stw _ h2
    exact va_mabs hx hb (hml.trans hl.1.symm) hown (hK.1.use hl0 rfl) (hK.1.use hs0 rfl) (hK.1.use hi0 rfl) (hK.1.use hc0 rfl) h1 (by show _ ≤ 41 * d + 32; omega) h3 h4 hdg (hP _ _ _ _ _ h5 p e s m args below meth c H locs ls hx hb hml hr hown hlk hnm hK hz hW hS hl)
  · exact hs.elim
/-! the eleven texts -/
def s_ldcs (X : mh_X) (i : Nat) (P : mh_PR) : mh_PR := fun lv st h k n => P lv (.ref (mh_aK X.1 i) :: st) h k n
theorem sn_ldcs {i j : Nat} (hi : i < 11) (hj : 84 + 2 * i = j) (hc : X.2.1.cls = RX7) (hdg : decode X.2.2.1 pc = .ok (.ldc j, 2)) (hP : mh_S X (pc + 2) P) : mh_S X pc (s_ldcs X i P) := by
  obtain ⟨E, y, cc, nL, ret, d, mc, ms, Post⟩ := X
  intro lv st h k n hs
  intro p e s m args below meth c H locs ls hx hb hml hr hown hlk hnm hK hz hW hS hl
  subst hj
  exact va_ldcS hx hb (by rw [← hc]; exact hown) (hK.2.2.2 i hi) hdg (hP _ _ _ _ _ hs p e s m args below meth c H locs ls hx hb hml hr hown hlk hnm hK hz hW hS hl)
def s_gcs (P : mh_PR) : mh_PR := fun lv st h k n => P lv (.int 1 :: st) h k n
theorem sn_gcs (hl0 : Cond.fieldLink X.2.1.cls idx RJ0 "COMPACT_STRINGS" "Z" ∈ lw_tbl) (hdg : decode X.2.2.1 pc = .ok (.getstatic idx, 3)) (hP : mh_S X (pc + 3) P) : mh_S X pc (s_gcs P) := by
  obtain ⟨E, y, cc, nL, ret, d, mc, ms, Post⟩ := X
  intro lv st h k n hs
  intro p e s m args below meth c H locs ls hx hb hml hr hown hlk hnm hK hz hW hS hl
  obtain ⟨cf, kf, fi, f, a, cell, h1, h2, h3, h4, h5, h6, h7, h8⟩ := hW.2.2.1.2.2.1
  exact W.gets hx hb hown (hK.1.use hl0 rfl) h1 h2 h3 h4 h5 (fun e => by rw [e] at h6; cases h6) h7 rfl hdg (hP _ _ _ _ _ hs p e s m args below meth c H locs ls hx hb hml hr hown hlk hnm hK hz hW hS hl)
def s_gfm (X : mh_X) (P : mh_PR) : mh_PR := fun lv st h k n => P lv (va_rf X.1.2.2.2.2.2.2.2 :: st) h k n
theorem sn_gfm (hl0 : Cond.fieldLink X.2.1.cls idx RJ3 "SIOOBE_FORMATTER" "Ljava/util/function/BiFunction;" ∈ lw_tbl) (hdg : decode X.2.2.1 pc = .ok (.getstatic idx, 3)) (hP : mh_S X (pc + 3) P) : mh_S X pc (s_gfm X P) := by
  obtain ⟨E, y, cc, nL, ret, d, mc, ms, Post⟩ := X
  intro lv st h k n hs
  intro p e s m args below meth c H locs ls hx hb hml hr hown hlk hnm hK hz hW hS hl
  obtain ⟨cf, kf, fi, f, a, cell, h1, h2, h3, h4, h5, h6, h7, h8⟩ := hW.2.2.1.2.2.2
  exact W.gets hx hb hown (hK.1.use hl0 rfl) h1 h2 h3 h4 h5 (fun e => by rw [e] at h6; cases h6) h7 rfl hdg (hP _ _ _ _ _ hs p e s m args below meth c H locs ls hx hb hml hr hown hlk hnm hK hz hW hS hl)
def s_gsV (X : mh_X) (P : mh_PR) : mh_PR := fun lv st h k n => match st with
  | .ref a :: r => ∃ i : Nat, i < 11 ∧ a = mh_aK X.1 i ∧ P lv (.ref (mh_aV X.1 i) :: r) h k n
  | _ => False
def s_gsC (X : mh_X) (P : mh_PR) : mh_PR := fun lv st h k n => match st with
  | .ref a :: r => ∃ i : Nat, i < 11 ∧ a = mh_aK X.1 i ∧ P lv (.int 0 :: r) h k n
  | _ => False
theorem sn_gsV (hl0 : Cond.fieldLink X.2.1.cls idx RJ0 "value" "[B" ∈ lw_tbl) (hdg : decode X.2.2.1 pc = .ok (.getfield idx, 3)) (hP : mh_S X (pc + 3) P) : mh_S X pc (s_gsV X P) := by
  obtain ⟨E, y, cc, nL, ret, d, mc, ms, Post⟩ := X
  intro lv st h k n hs
  unfold s_gsV at hs
  split at hs
  · obtain ⟨i, hi, rfl, h3⟩ := hs
    intro p e s m args below meth c H locs ls hx hb hml hr hown hlk hnm hK hz hW hS hl
    obtain ⟨cf, k0, fi, f, cell, g1, g2, g3, g4, g5, g6⟩ := (hW.2.2.1.2.1.1 i hi).2.2.1
    exact W.getf hx hb hown (hK.1.use hl0 rfl) g1 g2 g3 g4 g5 rfl rfl hdg (hP _ _ _ _ _ h3 p e s m args below meth c H locs ls hx hb hml hr hown hlk hnm hK hz hW hS hl)
  · exact hs.elim
theorem sn_gsC (hl0 : Cond.fieldLink X.2.1.cls idx RJ0 "coder" "B" ∈ lw_tbl) (hdg : decode X.2.2.1 pc = .ok (.getfield idx, 3)) (hP : mh_S X (pc + 3) P) : mh_S X pc (s_gsC X P) := by
  obtain ⟨E, y, cc, nL, ret, d, mc, ms, Post⟩ := X
  intro lv st h k n hs
  unfold s_gsC at hs
  split at hs
  · obtain ⟨i, hi, rfl, h3⟩ := hs
    intro p e s m args below meth c H locs ls hx hb hml hr hown hlk hnm hK hz hW hS hl
    obtain ⟨cf, k0, fi, f, cell, g1, g2, g3, g4, g5, g6⟩ := (hW.2.2.1.2.1.1 i hi).2.1
    exact W.getf hx hb hown (hK.1.use hl0 rfl) g1 g2 g3 g4 g5 rfl rfl hdg (hP _ _ _ _ _ h3 p e s m args below meth c H locs ls hx hb hml hr hown hlk hnm hK hz hW hS hl)
  · exact hs.elim
def s_bln (X : mh_X) (P : mh_PR) : mh_PR := fun lv st h k n => match st with
  | .ref a :: r => ∃ i : Nat, i < 11 ∧ a = mh_aV X.1 i ∧ P lv (.int (Int32.ofNat (mh_len.getD i 0)) :: r) h k n
  | _ => False
theorem sn_bln (hdg : decode X.2.2.1 pc = .ok (.arraylength, 1)) (hP : mh_S X (pc + 1) P) : mh_S X pc (s_bln X P) := by
  obtain ⟨E, y, cc, nL, ret, d, mc, ms, Post⟩ := X
  intro lv st h k n hs
  unfold s_bln at hs
  split at hs
  · obtain ⟨i, hi, rfl, h3⟩ := hs
    intro p e s m args below meth c H locs ls hx hb hml hr hown hlk hnm hK hz hW hS hl
    obtain ⟨cell, g1, g2, g3, g4, g5, g6, g7⟩ := (hW.2.2.1.2.1.1 i hi).2.2.2
    exact W.alen (n := Int32.ofNat (mh_len.getD i 0)) hx hb g1 g2 g5 rfl rfl hdg (hP _ _ _ _ _ h3 p e s m args below meth c H locs ls hx hb hml hr hown hlk hnm hK hz hW hS hl)
  · exact hs.elim
def s_bld (X : mh_X) (P : mh_PR) : mh_PR := fun lv st h k n => match st with
  | .int j :: .ref a :: r => ∃ i : Nat, i < 11 ∧ a = mh_aV X.1 i ∧ vp_in j (mh_len.getD i 0) ∧ P lv (.int ((mh_byt.getD i []).getD j.toNatClampNeg 0) :: r) h k n
  | _ => False
theorem sn_bld (hdg : decode X.2.2.1 pc = .ok (.baload, 1)) (hP : mh_S X (pc + 1) P) : mh_S X pc (s_bld X P) := by
  obtain ⟨E, y, cc, nL, ret, d, mc, ms, Post⟩ := X
  intro lv st h k n hs
  unfold s_bld at hs
  split at hs
  · rename_i j a r
    obtain ⟨i, hi, rfl, h2, h3⟩ := hs
    intro p e s m args below meth c H locs ls hx hb hml hr hown hlk hnm hK hz hW hS hl
    obtain ⟨cell, g1, g2, g3, g4, g5, g6, g7⟩ := (hW.2.2.1.2.1.1 i hi).2.2.2
    have hlt : j.toNatClampNeg < mh_len.getD i 0 := Nat.not_le.mp fun q => h2 (Or.inr q)
    exact W.bald hx hb g1 g2 g3 (fun q => q.elim (fun z => h2 (Or.inl z)) (fun z => Nat.not_le.mpr hlt (Nat.le_trans g4 z))) (g6 _ hlt) rfl rfl hdg (hP _ _ _ _ _ h3 p e s m args below meth c H locs ls hx hb hml hr hown hlk hnm hK hz hW hS hl)
  · exact hs.elim
def s_cvS (X : mh_X) (y : MethodName) (na : Nat) (P : mh_PR) : mh_PR := fun lv st h k n => mh_pop na [] st (fun As r => match r with
  | .ref a :: rest => (∃ i : Nat, i < 11 ∧ a = mh_aK X.1 i) ∧ mh_cl X y (.ref a :: As) rest P lv [] h k n
  | _ => False)
theorem sn_cvS {y : MethodName} {na : Nat} (hl0 : Cond.methodLink X.2.1.cls idx y ∈ lw_tbl) (hi0 : Cond.instanceMethod y ∈ lw_tbl) (hs0 : Cond.selects y.cls y y ∈ lw_tbl) (hn0 : Cond.initialized y.cls ∈ lw_tbl) (hC : y.cls = RJ0) (hm : mh_nm y na) (hdg : decode X.2.2.1 pc = .ok (.invokevirtual idx, 3)) (hP : mh_S X (pc + 3) P) : mh_S X pc (s_cvS X y na P) := by
  obtain ⟨E, y0, cc, nL, ret, d, mc, ms, Post⟩ := X
  intro lv st h k n hs
  unfold s_cvS at hs
  have hpp := mh_pop_spec _ _ _ _ hs
  clear hs
  obtain ⟨As, r0, rfl, hlen, hs⟩ := hpp
  rw [List.append_nil] at hs
  split at hs
  · rename_i a rest
    obtain ⟨⟨i9, hi9, hobj⟩, d9, mc9, ms9, Q, hM, h1, h2, h3, h4, h5⟩ := hs
    obtain ⟨cc9, nL9, ret9, hcode, ⟨hnL, hvi⟩, hMet⟩ := hM
    intro p e s m args below meth c H locs ls hx hb hml hr hown hlk hnm hK hz hW hS hl
    have hcw : ∀ w ∈ [Cond.code y cc9 nL9 ret9], ∀ (a' : Array Value) (U : State), s.WarmedH U.vm → w.before a' U = true := fun w hw a' U hU => by rw [List.mem_singleton.mp hw]; exact (hK.1.moved hU).use hcode rfl
    have hfr : (mh_R d9 mc9 ms9).frames + 1 ≤ (mh_R d mc ms).frames := h1
    have hlo : 8 + (nL9 + 11) + (mh_R d9 mc9 ms9).locals ≤ (mh_R d mc ms).locals := by show 8 + (nL9 + 11) + (41 * d9 + 32) ≤ 41 * d + 32; have h1 : d9 < d := h1; omega
    have hpc : ∀ U : State, U.heap = H → s.WarmedH U.vm → mh_K E U ∧ mh_P E U h U.heap := fun U hU hw => ⟨hK.moved hw, by rw [hU]; exact hW.moved hw.alike⟩
    obtain ⟨cell9, g1, g2, g3, -⟩ := (hW.2.2.1.2.1.1 i9 hi9).1
    have hrcv : ∃ cellB : Cell, H[a]? = some cellB ∧ cellB.vm.isStatics = false ∧ s.vm.findClass y.cls = some cellB.cls := ⟨cell9, by rw [hobj]; exact g1, g2, by rw [hC]; exact g3⟩
    refine mh_ofRun (va_runV (As := As) (rest := rest) ⟨hx, hb, hml, hown, (fun w hw => (List.not_mem_nil hw).elim : ∀ w ∈ ([] : List Cond), w.before args s = true)⟩ hMet ⟨⟨rfl, rfl, hfr, hlo, hcw, List.mem_singleton.mpr rfl, hK.1.use hcode rfl, hK.1.use hn0 rfl, ⟨hm.1, hm.2.1⟩, hm.len, hK.1.use hl0 rfl⟩, hK.1.use hi0 rfl, hK.1.use hs0 rfl⟩ ⟨mh_blind, hrcv, fun U hU hw => ⟨rfl, hpc U hU hw⟩⟩ rfl hlen hl.1 rfl (lv_room h4) hdg ⟨h2, h3⟩) hS (fun v h9 H1 locs1 hq hW hS => ?_)
    exact hP _ _ _ _ _ (h5 v h9 hq) p e s m args below meth c H1 locs1 ls hx hb hml hr hown hlk hnm hK hz hW hS hl
  · exact hs.elim
def s_cret (X : mh_X) : mh_PR := fun _ st h k n => match st with
  | [.int x] => (∃ q : Nat, q < 65536 ∧ x = nI q) ∧ mh_po X (some (.int x)) h ∧ k ≤ mh_mc X ∧ n ≤ mh_ms X
  | _ => False
def s_bret (X : mh_X) : mh_PR := fun _ st h k n => match st with
  | [.int x] => x.toInt8.toInt32 = x ∧ mh_po X (some (.int x)) h ∧ k ≤ mh_mc X ∧ n ≤ mh_ms X
  | _ => False
theorem sn_cret (hret : X.2.2.2.2.1 = some .char) (hdg : decode X.2.2.1 pc = .ok (.ireturn, 1)) : mh_S X pc (s_cret X) := by
  obtain ⟨E, y, cc, nL, ret, d, mc, ms, Post⟩ := X
  intro lv st h k n hs
  unfold s_cret at hs
  split at hs
  · obtain ⟨⟨q, hq, h0⟩, h1, h2, h3⟩ := hs
    intro p e s m args below meth c H locs ls hx hb hml hr hown hlk hnm hK hz hW hS hl
    refine W.widen h2 h3 ?_
    exact W.zret hx hb (hr.trans hret) (by rw [h0]; exact (pk_charN hq).1) (fun t ht hw => ⟨_, h, rfl, h1, by rw [ht]; exact hW.moved hw.alike, hS.F ht⟩) hS.2.2 hdg hlk
  · exact hs.elim
theorem sn_bret (hret : X.2.2.2.2.1 = some .byte) (hdg : decode X.2.2.1 pc = .ok (.ireturn, 1)) : mh_S X pc (s_bret X) := by
  obtain ⟨E, y, cc, nL, ret, d, mc, ms, Post⟩ := X
  intro lv st h k n hs
  unfold s_bret at hs
  split at hs
  · obtain ⟨h0, h1, h2, h3⟩ := hs
    intro p e s m args below meth c H locs ls hx hb hml hr hown hlk hnm hK hz hW hS hl
    refine W.widen h2 h3 ?_
    exact W.zret hx hb (hr.trans hret) (by rw [narrow_byte, h0]) (fun t ht hw => ⟨_, h, rfl, h1, by rw [ht]; exact hW.moved hw.alike, hS.F ht⟩) hS.2.2 hdg hlk
  · exact hs.elim
end MHE
