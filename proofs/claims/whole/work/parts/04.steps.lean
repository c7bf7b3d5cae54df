/-! PART 04: A METHOD'S WALK OVER PICTURES: what each instruction asks of the picture (s_..), and that it is enough (sn_..) -/
def mh_R (d mc ms : Nat) : Room := { frames := d, cells := mc, slots := ms, locals := 41 * d + 32 }
def mh_Q (E : mh_E) (Post : Option Value → mh_H → Prop) : Array Value → State → Outcome → State → Prop := fun _ s o t => ∃ (v : Option Value) (h : mh_H), o = .returned v ∧ Post v h ∧ mh_P E t h t.heap ∧ va_F (mh_A E) s t
/-- a walk: the world's names, the method, its code, how many locals, what it returns; frames, cells, slots that it may use; what must hold at its end -/
abbrev mh_X : Type := mh_E × MethodName × ByteArray × Nat × Option FieldType × Nat × Nat × Nat × (Option Value → mh_H → Prop)
abbrev mh_d (X : mh_X) : Nat := X.2.2.2.2.2.1
abbrev mh_mc (X : mh_X) : Nat := X.2.2.2.2.2.2.1
abbrev mh_ms (X : mh_X) : Nat := X.2.2.2.2.2.2.2.1
abbrev mh_po (X : mh_X) : Option Value → mh_H → Prop := X.2.2.2.2.2.2.2.2
abbrev mh_PR : Type := List (Option Value) → List Value → mh_H → Nat → Nat → Prop
/-- from here, with these locals, this stack, this heap, so many cells and slots made, the method comes to its end as it must -/
def mh_G (X : mh_X) (pc : Nat) : mh_PR := match X with
  | (E, y, cc, nL, ret, d, mc, ms, Post) => fun lv st h k n => ∀ (p : Program) (e : Env) (s : State) (m : MethodId) (args : Array Value) (below : List Frame) (meth : Method) (c : Code) (H : Heap) (locs : List Loc) (ls : Array Slot),
    p.tables.exec = Jvm.exec → c.code = cc → c.maxLocals = nL → meth.sig.returnType = ret → s.vm.findClass y.cls = some m.cls → meth.locks = false → meth.name = y.name → mh_K E s → mh_z E ≤ s.heap.size →
    mh_P E s h H → va_S (mh_A E) s.heap H locs → lv_has ls nL (mh_al 0 lv) →
    W p E.1 e (mh_R d mc ms) s m args below meth c H locs k n (MQ below (mh_Q E Post) args s mc ms (mh_A E)) (F0 m pc ls st)
def mh_S (X : mh_X) (pc : Nat) (P : mh_PR) : Prop := ∀ lv st h k n, P lv st h k n → mh_G X pc lv st h k n
theorem mh_S.G {X : mh_X} {pc : Nat} : mh_S X pc (mh_G X pc) := fun _ _ _ _ _ h => h
theorem sn_goto {X : mh_X} {pc tgt : Nat} {P : mh_PR} {off : Int} (hdg : decode X.2.2.1 pc = .ok (.goto off, 3)) (ht : (pc : Int) + off = (tgt : Int)) (hP : mh_S X tgt P) : mh_S X pc P := by
  obtain ⟨E, y, cc, nL, ret, d, mc, ms, Post⟩ := X
  intro lv st h k n hs
  intro p e s m args below meth c H locs ls hx hb hml hr hown hlk hnm hK hz hW hS hl
  exact lv_goto hx hb hdg ht (hP _ _ _ _ _ hs p e s m args below meth c H locs ls hx hb hml hr hown hlk hnm hK hz hW hS hl)
/-- a place that is not reached -/
def s_no : mh_PR := fun _ _ _ _ _ => False
theorem sn_no {X : mh_X} {pc : Nat} : mh_S X pc s_no := fun _ _ _ _ _ h => h.elim
def s_push (v : Value) (P : mh_PR) : mh_PR := fun lv st h k n => P lv (v :: st) h k n
theorem sn_iconst {X : mh_X} {pc : Nat} {P : mh_PR} {i : Int} {v : Int32} (hdg : decode X.2.2.1 pc = .ok (.iconst i, 1)) (hv : Int32.ofInt i = v) (hP : mh_S X (pc + 1) P) : mh_S X pc (s_push (.int v) P) := by
  obtain ⟨E, y, cc, nL, ret, d, mc, ms, Post⟩ := X
  intro lv st h k n hs
  intro p e s m args below meth c H locs ls hx hb hml hr hown hlk hnm hK hz hW hS hl
  exact lv_iconst hx hb hdg hv (hP _ _ _ _ _ hs p e s m args below meth c H locs ls hx hb hml hr hown hlk hnm hK hz hW hS hl)
theorem sn_bipush {X : mh_X} {pc : Nat} {P : mh_PR} {i : Int} {v : Int32} (hdg : decode X.2.2.1 pc = .ok (.bipush i, 2)) (hv : (Int8.ofInt i).toInt32 = v) (hP : mh_S X (pc + 2) P) : mh_S X pc (s_push (.int v) P) := by
  obtain ⟨E, y, cc, nL, ret, d, mc, ms, Post⟩ := X
  intro lv st h k n hs
  intro p e s m args below meth c H locs ls hx hb hml hr hown hlk hnm hK hz hW hS hl
  exact lv_bipush hx hb hdg hv (hP _ _ _ _ _ hs p e s m args below meth c H locs ls hx hb hml hr hown hlk hnm hK hz hW hS hl)
theorem sn_sipush {X : mh_X} {pc : Nat} {P : mh_PR} {i : Int} {v : Int32} (hdg : decode X.2.2.1 pc = .ok (.sipush i, 3)) (hv : (Int16.ofInt i).toInt32 = v) (hP : mh_S X (pc + 3) P) : mh_S X pc (s_push (.int v) P) := by
  obtain ⟨E, y, cc, nL, ret, d, mc, ms, Post⟩ := X
  intro lv st h k n hs
  intro p e s m args below meth c H locs ls hx hb hml hr hown hlk hnm hK hz hW hS hl
  exact lv_sipush hx hb hdg hv (hP _ _ _ _ _ hs p e s m args below meth c H locs ls hx hb hml hr hown hlk hnm hK hz hW hS hl)
theorem sn_ldc {X : mh_X} {pc : Nat} {P : mh_PR} {i : Nat} {v : Int32} (hdg : decode X.2.2.1 pc = .ok (.ldc i, 2)) (hv : Cond.constant X.2.1.cls i v ∈ lw_tbl) (hP : mh_S X (pc + 2) P) : mh_S X pc (s_push (.int v) P) := by
  obtain ⟨E, y, cc, nL, ret, d, mc, ms, Post⟩ := X
  intro lv st h k n hs
  intro p e s m args below meth c H locs ls hx hb hml hr hown hlk hnm hK hz hW hS hl
  exact lv_ldc hx hb hown (hK.1.use hv rfl) hdg (hP _ _ _ _ _ hs p e s m args below meth c H locs ls hx hb hml hr hown hlk hnm hK hz hW hS hl)
theorem sn_ldcw {X : mh_X} {pc : Nat} {P : mh_PR} {i : Nat} {v : Int32} (hdg : decode X.2.2.1 pc = .ok (.ldc_w i, 3)) (hv : Cond.constant X.2.1.cls i v ∈ lw_tbl) (hP : mh_S X (pc + 3) P) : mh_S X pc (s_push (.int v) P) := by
  obtain ⟨E, y, cc, nL, ret, d, mc, ms, Post⟩ := X
  intro lv st h k n hs
  intro p e s m args below meth c H locs ls hx hb hml hr hown hlk hnm hK hz hW hS hl
  exact lv_ldcw hx hb hown (hK.1.use hv rfl) hdg (hP _ _ _ _ _ hs p e s m args below meth c H locs ls hx hb hml hr hown hlk hnm hK hz hW hS hl)
theorem sn_lconst {X : mh_X} {pc : Nat} {P : mh_PR} {i : Fin 2} {v : Int64} (hdg : decode X.2.2.1 pc = .ok (.lconst i, 1)) (hv : Int64.ofNat (i : Nat) = v) (hP : mh_S X (pc + 1) P) : mh_S X pc (s_push (.long v) P) := by
  obtain ⟨E, y, cc, nL, ret, d, mc, ms, Post⟩ := X
  intro lv st h k n hs
  intro p e s m args below meth c H locs ls hx hb hml hr hown hlk hnm hK hz hW hS hl
  exact lv_lconst hx hb hdg hv (hP _ _ _ _ _ hs p e s m args below meth c H locs ls hx hb hml hr hown hlk hnm hK hz hW hS hl)
theorem sn_null {X : mh_X} {pc : Nat} {P : mh_PR}  (hdg : decode X.2.2.1 pc = .ok (.aconst_null, 1))  (hP : mh_S X (pc + 1) P) : mh_S X pc (s_push (.null) P) := by
  obtain ⟨E, y, cc, nL, ret, d, mc, ms, Post⟩ := X
  intro lv st h k n hs
  intro p e s m args below meth c H locs ls hx hb hml hr hown hlk hnm hK hz hW hS hl
  exact lv_null hx hb hdg (hP _ _ _ _ _ hs p e s m args below meth c H locs ls hx hb hml hr hown hlk hnm hK hz hW hS hl)
def s_il (i : Nat) (P : mh_PR) : mh_PR := fun lv st h k n => match mh_get lv i with
  | some (.int x) => P lv (.int x :: st) h k n
  | _ => False
def s_ll (i : Nat) (P : mh_PR) : mh_PR := fun lv st h k n => match mh_get lv i with
  | some (.long x) => P lv (.long x :: st) h k n
  | _ => False
def s_al (i : Nat) (P : mh_PR) : mh_PR := fun lv st h k n => match mh_get lv i with
  | some (.ref x) => P lv (.ref x :: st) h k n
  | some .null => P lv (.null :: st) h k n
  | _ => False
theorem sn_iload_n {X : mh_X} {pc i : Nat} {P : mh_PR} {j : Fin 4} (hdg : decode X.2.2.1 pc = .ok (.iload_n j, 1)) (hi : (j : Nat) = i) (hP : mh_S X (pc + 1) P) : mh_S X pc (s_il i P) := by
  obtain ⟨E, y, cc, nL, ret, d, mc, ms, Post⟩ := X
  intro lv st h k n hs
  unfold s_il at hs
  split at hs
  · rename_i hg
    intro p e s m args below meth c H locs ls hx hb hml hr hown hlk hnm hK hz hW hS hl
    exact lv_iload_n hx hb hdg hi (mh_at hl hg) (hP _ _ _ _ _ hs p e s m args below meth c H locs ls hx hb hml hr hown hlk hnm hK hz hW hS hl)
  · exact hs.elim
theorem sn_iload {X : mh_X} {pc i : Nat} {P : mh_PR}  (hdg : decode X.2.2.1 pc = .ok (.iload i, 2))  (hP : mh_S X (pc + 2) P) : mh_S X pc (s_il i P) := by
  obtain ⟨E, y, cc, nL, ret, d, mc, ms, Post⟩ := X
  intro lv st h k n hs
  unfold s_il at hs
  split at hs
  · rename_i hg
    intro p e s m args below meth c H locs ls hx hb hml hr hown hlk hnm hK hz hW hS hl
    exact lv_iload hx hb hdg  (mh_at hl hg) (hP _ _ _ _ _ hs p e s m args below meth c H locs ls hx hb hml hr hown hlk hnm hK hz hW hS hl)
  · exact hs.elim
theorem sn_lload_n {X : mh_X} {pc i : Nat} {P : mh_PR} {j : Fin 4} (hdg : decode X.2.2.1 pc = .ok (.lload_n j, 1)) (hi : (j : Nat) = i) (hP : mh_S X (pc + 1) P) : mh_S X pc (s_ll i P) := by
  obtain ⟨E, y, cc, nL, ret, d, mc, ms, Post⟩ := X
  intro lv st h k n hs
  unfold s_ll at hs
  split at hs
  · rename_i hg
    intro p e s m args below meth c H locs ls hx hb hml hr hown hlk hnm hK hz hW hS hl
    exact lv_lload_n hx hb hdg hi (mh_at hl hg) (hP _ _ _ _ _ hs p e s m args below meth c H locs ls hx hb hml hr hown hlk hnm hK hz hW hS hl)
  · exact hs.elim
theorem sn_lload {X : mh_X} {pc i : Nat} {P : mh_PR}  (hdg : decode X.2.2.1 pc = .ok (.lload i, 2))  (hP : mh_S X (pc + 2) P) : mh_S X pc (s_ll i P) := by
  obtain ⟨E, y, cc, nL, ret, d, mc, ms, Post⟩ := X
  intro lv st h k n hs
  unfold s_ll at hs
  split at hs
  · rename_i hg
    intro p e s m args below meth c H locs ls hx hb hml hr hown hlk hnm hK hz hW hS hl
    exact lv_lload hx hb hdg  (mh_at hl hg) (hP _ _ _ _ _ hs p e s m args below meth c H locs ls hx hb hml hr hown hlk hnm hK hz hW hS hl)
  · exact hs.elim
theorem sn_aload_n {X : mh_X} {pc i : Nat} {P : mh_PR} {j : Fin 4} (hdg : decode X.2.2.1 pc = .ok (.aload_n j, 1)) (hi : (j : Nat) = i) (hP : mh_S X (pc + 1) P) : mh_S X pc (s_al i P) := by
  obtain ⟨E, y, cc, nL, ret, d, mc, ms, Post⟩ := X
  intro lv st h k n hs
  unfold s_al at hs
  split at hs
  · rename_i hg
    intro p e s m args below meth c H locs ls hx hb hml hr hown hlk hnm hK hz hW hS hl
    exact lv_aload_n hx hb hdg hi (mh_at hl hg) (hP _ _ _ _ _ hs p e s m args below meth c H locs ls hx hb hml hr hown hlk hnm hK hz hW hS hl)
  · rename_i hg
    intro p e s m args below meth c H locs ls hx hb hml hr hown hlk hnm hK hz hW hS hl
    exact lv_aload_nN hx hb hdg hi (mh_at hl hg) (hP _ _ _ _ _ hs p e s m args below meth c H locs ls hx hb hml hr hown hlk hnm hK hz hW hS hl)
  · exact hs.elim
theorem sn_aload {X : mh_X} {pc i : Nat} {P : mh_PR}  (hdg : decode X.2.2.1 pc = .ok (.aload i, 2))  (hP : mh_S X (pc + 2) P) : mh_S X pc (s_al i P) := by
  obtain ⟨E, y, cc, nL, ret, d, mc, ms, Post⟩ := X
  intro lv st h k n hs
  unfold s_al at hs
  split at hs
  · rename_i hg
    intro p e s m args below meth c H locs ls hx hb hml hr hown hlk hnm hK hz hW hS hl
    exact lv_aload hx hb hdg  (mh_at hl hg) (hP _ _ _ _ _ hs p e s m args below meth c H locs ls hx hb hml hr hown hlk hnm hK hz hW hS hl)
  · rename_i hg
    intro p e s m args below meth c H locs ls hx hb hml hr hown hlk hnm hK hz hW hS hl
    exact lv_aloadN hx hb hdg  (mh_at hl hg) (hP _ _ _ _ _ hs p e s m args below meth c H locs ls hx hb hml hr hown hlk hnm hK hz hW hS hl)
  · exact hs.elim
def s_is (i : Nat) (P : mh_PR) : mh_PR := fun lv st h k n => match st with
  | .int x :: r => mh_one lv i = true ∧ P (mh_set lv i (.int x)) r h k n
  | _ => False
def s_ls (i : Nat) (P : mh_PR) : mh_PR := fun lv st h k n => match st with
  | .long x :: r => mh_two lv i = true ∧ P (mh_set lv i (.long x)) r h k n
  | _ => False
def s_as (i : Nat) (P : mh_PR) : mh_PR := fun lv st h k n => match st with
  | .ref x :: r => mh_one lv i = true ∧ P (mh_set lv i (.ref x)) r h k n
  | .null :: r => mh_one lv i = true ∧ P (mh_set lv i .null) r h k n
  | _ => False
def s_inc (i : Nat) (v : Int32) (P : mh_PR) : mh_PR := fun lv st h k n => match mh_get lv i with
  | some (.int x) => mh_one lv i = true ∧ P (mh_set lv i (.int (x + v))) st h k n
  | _ => False
theorem sn_istore_n {X : mh_X} {pc i : Nat} {P : mh_PR} {j : Fin 4} (hdg : decode X.2.2.1 pc = .ok (.istore_n j, 1)) (hi : (j : Nat) = i) (hn : i < X.2.2.2.1) (hP : mh_S X (pc + 1) P) : mh_S X pc (s_is i P) := by
  obtain ⟨E, y, cc, nL, ret, d, mc, ms, Post⟩ := X
  intro lv st h k n hs
  unfold s_is at hs
  split at hs
  · intro p e s m args below meth c H locs ls hx hb hml hr hown hlk hnm hK hz hW hS hl
    refine lv_istore_n hx hb hdg hi hl hn rfl (fun ls hl => ?_)
    exact hP _ _ _ _ _ hs.2 p e s m args below meth c H locs ls hx hb hml hr hown hlk hnm hK hz hW hS (mh_set_has hl hs.1)
  · exact hs.elim
theorem sn_istore {X : mh_X} {pc i : Nat} {P : mh_PR}  (hdg : decode X.2.2.1 pc = .ok (.istore i, 2))  (hn : i < X.2.2.2.1) (hP : mh_S X (pc + 2) P) : mh_S X pc (s_is i P) := by
  obtain ⟨E, y, cc, nL, ret, d, mc, ms, Post⟩ := X
  intro lv st h k n hs
  unfold s_is at hs
  split at hs
  · intro p e s m args below meth c H locs ls hx hb hml hr hown hlk hnm hK hz hW hS hl
    refine lv_istore hx hb hdg  hl hn rfl (fun ls hl => ?_)
    exact hP _ _ _ _ _ hs.2 p e s m args below meth c H locs ls hx hb hml hr hown hlk hnm hK hz hW hS (mh_set_has hl hs.1)
  · exact hs.elim
theorem sn_lstore_n {X : mh_X} {pc i : Nat} {P : mh_PR} {j : Fin 4} (hdg : decode X.2.2.1 pc = .ok (.lstore_n j, 1)) (hi : (j : Nat) = i) (hn : i + 1 < X.2.2.2.1) (hP : mh_S X (pc + 1) P) : mh_S X pc (s_ls i P) := by
  obtain ⟨E, y, cc, nL, ret, d, mc, ms, Post⟩ := X
  intro lv st h k n hs
  unfold s_ls at hs
  split at hs
  · intro p e s m args below meth c H locs ls hx hb hml hr hown hlk hnm hK hz hW hS hl
    refine lv_lstore_n hx hb hdg hi hl hn rfl (fun ls hl => ?_)
    exact hP _ _ _ _ _ hs.2 p e s m args below meth c H locs ls hx hb hml hr hown hlk hnm hK hz hW hS (mh_set_has2 hl hs.1)
  · exact hs.elim
theorem sn_lstore {X : mh_X} {pc i : Nat} {P : mh_PR}  (hdg : decode X.2.2.1 pc = .ok (.lstore i, 2))  (hn : i + 1 < X.2.2.2.1) (hP : mh_S X (pc + 2) P) : mh_S X pc (s_ls i P) := by
  obtain ⟨E, y, cc, nL, ret, d, mc, ms, Post⟩ := X
  intro lv st h k n hs
  unfold s_ls at hs
  split at hs
  · intro p e s m args below meth c H locs ls hx hb hml hr hown hlk hnm hK hz hW hS hl
    refine lv_lstore hx hb hdg  hl hn rfl (fun ls hl => ?_)
    exact hP _ _ _ _ _ hs.2 p e s m args below meth c H locs ls hx hb hml hr hown hlk hnm hK hz hW hS (mh_set_has2 hl hs.1)
  · exact hs.elim
theorem sn_astore_n {X : mh_X} {pc i : Nat} {P : mh_PR} {j : Fin 4} (hdg : decode X.2.2.1 pc = .ok (.astore_n j, 1)) (hi : (j : Nat) = i) (hn : i < X.2.2.2.1) (hP : mh_S X (pc + 1) P) : mh_S X pc (s_as i P) := by
  obtain ⟨E, y, cc, nL, ret, d, mc, ms, Post⟩ := X
  intro lv st h k n hs
  unfold s_as at hs
  split at hs
  · intro p e s m args below meth c H locs ls hx hb hml hr hown hlk hnm hK hz hW hS hl
    refine lv_astore_n hx hb hdg hi hl hn rfl (fun ls hl => ?_)
    exact hP _ _ _ _ _ hs.2 p e s m args below meth c H locs ls hx hb hml hr hown hlk hnm hK hz hW hS (mh_set_has hl hs.1)
  · intro p e s m args below meth c H locs ls hx hb hml hr hown hlk hnm hK hz hW hS hl
    refine lv_astore_nN hx hb hdg hi hl hn rfl (fun ls hl => ?_)
    exact hP _ _ _ _ _ hs.2 p e s m args below meth c H locs ls hx hb hml hr hown hlk hnm hK hz hW hS (mh_set_has hl hs.1)
  · exact hs.elim
theorem sn_astore {X : mh_X} {pc i : Nat} {P : mh_PR}  (hdg : decode X.2.2.1 pc = .ok (.astore i, 2))  (hn : i < X.2.2.2.1) (hP : mh_S X (pc + 2) P) : mh_S X pc (s_as i P) := by
  obtain ⟨E, y, cc, nL, ret, d, mc, ms, Post⟩ := X
  intro lv st h k n hs
  unfold s_as at hs
  split at hs
  · intro p e s m args below meth c H locs ls hx hb hml hr hown hlk hnm hK hz hW hS hl
    refine lv_astore hx hb hdg  hl hn rfl (fun ls hl => ?_)
    exact hP _ _ _ _ _ hs.2 p e s m args below meth c H locs ls hx hb hml hr hown hlk hnm hK hz hW hS (mh_set_has hl hs.1)
  · intro p e s m args below meth c H locs ls hx hb hml hr hown hlk hnm hK hz hW hS hl
    refine lv_astoreN hx hb hdg  hl hn rfl (fun ls hl => ?_)
    exact hP _ _ _ _ _ hs.2 p e s m args below meth c H locs ls hx hb hml hr hown hlk hnm hK hz hW hS (mh_set_has hl hs.1)
  · exact hs.elim
theorem sn_iinc {X : mh_X} {pc i : Nat} {P : mh_PR} {j : Int} {v : Int32} (hdg : decode X.2.2.1 pc = .ok (.iinc i j, 3)) (hv : Int32.ofInt j = v) (hn : i < X.2.2.2.1) (hP : mh_S X (pc + 3) P) : mh_S X pc (s_inc i v P) := by
  obtain ⟨E, y, cc, nL, ret, d, mc, ms, Post⟩ := X
  intro lv st h k n hs
  unfold s_inc at hs
  split at hs
  · rename_i x hg
    intro p e s m args below meth c H locs ls hx hb hml hr hown hlk hnm hK hz hW hS hl
    obtain ⟨q, hq⟩ := List.getElem?_of_mem ((mh_al_mem lv 0 (i, .int x)).mpr ⟨Nat.zero_le _, by rw [Nat.sub_zero]; exact hg⟩)
    refine lv_iinc hx hb hdg hl hq (by rw [hv]) hn rfl (fun ls hl => ?_)
    exact hP _ _ _ _ _ hs.2 p e s m args below meth c H locs ls hx hb hml hr hown hlk hnm hK hz hW hS (mh_set_has hl hs.1)
  · exact hs.elim
def s_bin (f : Int32 → Int32 → Int32) (P : mh_PR) : mh_PR := fun lv st h k n => match st with
  | .int y :: .int x :: r => P lv (.int (f x y) :: r) h k n
  | _ => False
def s_un (f : Int32 → Int32) (P : mh_PR) : mh_PR := fun lv st h k n => match st with
  | .int x :: r => P lv (.int (f x) :: r) h k n
  | _ => False
def mh_rem (x y : Int32) : Int32 := x - x / y * y
def mh_ush (x y : Int32) : Int32 := (x.toUInt32 >>> (y.toUInt32 &&& Int32.toUInt32 31)).toInt32
def mh_shl (x y : Int32) : Int32 := x <<< (y &&& 31)
def mh_shr (x y : Int32) : Int32 := x >>> (y &&& 31)
def s_div (f : Int32 → Int32 → Int32) (P : mh_PR) : mh_PR := fun lv st h k n => match st with
  | .int y :: .int x :: r => ¬ y = 0 ∧ P lv (.int (f x y) :: r) h k n
  | _ => False
theorem sn_iadd {X : mh_X} {pc : Nat} {P : mh_PR} (hdg : decode X.2.2.1 pc = .ok (.iadd, 1)) (hP : mh_S X (pc + 1) P) : mh_S X pc (s_bin (fun x y => x + y) P) := by
  obtain ⟨E, y, cc, nL, ret, d, mc, ms, Post⟩ := X
  intro lv st h k n hs
  unfold s_bin at hs
  split at hs
  · intro p e s m args below meth c H locs ls hx hb hml hr hown hlk hnm hK hz hW hS hl
    exact lv_iadd hx hb hdg (hP _ _ _ _ _ hs p e s m args below meth c H locs ls hx hb hml hr hown hlk hnm hK hz hW hS hl)
  · exact hs.elim
theorem sn_isub {X : mh_X} {pc : Nat} {P : mh_PR} (hdg : decode X.2.2.1 pc = .ok (.isub, 1)) (hP : mh_S X (pc + 1) P) : mh_S X pc (s_bin (fun x y => x - y) P) := by
  obtain ⟨E, y, cc, nL, ret, d, mc, ms, Post⟩ := X
  intro lv st h k n hs
  unfold s_bin at hs
  split at hs
  · intro p e s m args below meth c H locs ls hx hb hml hr hown hlk hnm hK hz hW hS hl
    exact lv_isub hx hb hdg (hP _ _ _ _ _ hs p e s m args below meth c H locs ls hx hb hml hr hown hlk hnm hK hz hW hS hl)
  · exact hs.elim
theorem sn_imul {X : mh_X} {pc : Nat} {P : mh_PR} (hdg : decode X.2.2.1 pc = .ok (.imul, 1)) (hP : mh_S X (pc + 1) P) : mh_S X pc (s_bin (fun x y => x * y) P) := by
  obtain ⟨E, y, cc, nL, ret, d, mc, ms, Post⟩ := X
  intro lv st h k n hs
  unfold s_bin at hs
  split at hs
  · intro p e s m args below meth c H locs ls hx hb hml hr hown hlk hnm hK hz hW hS hl
    exact lv_imul hx hb hdg (hP _ _ _ _ _ hs p e s m args below meth c H locs ls hx hb hml hr hown hlk hnm hK hz hW hS hl)
  · exact hs.elim
theorem sn_iand {X : mh_X} {pc : Nat} {P : mh_PR} (hdg : decode X.2.2.1 pc = .ok (.iand, 1)) (hP : mh_S X (pc + 1) P) : mh_S X pc (s_bin (fun x y => x &&& y) P) := by
  obtain ⟨E, y, cc, nL, ret, d, mc, ms, Post⟩ := X
  intro lv st h k n hs
  unfold s_bin at hs
  split at hs
  · intro p e s m args below meth c H locs ls hx hb hml hr hown hlk hnm hK hz hW hS hl
    exact lv_iand hx hb hdg (hP _ _ _ _ _ hs p e s m args below meth c H locs ls hx hb hml hr hown hlk hnm hK hz hW hS hl)
  · exact hs.elim
theorem sn_ior {X : mh_X} {pc : Nat} {P : mh_PR} (hdg : decode X.2.2.1 pc = .ok (.ior, 1)) (hP : mh_S X (pc + 1) P) : mh_S X pc (s_bin (fun x y => x ||| y) P) := by
  obtain ⟨E, y, cc, nL, ret, d, mc, ms, Post⟩ := X
  intro lv st h k n hs
  unfold s_bin at hs
  split at hs
  · intro p e s m args below meth c H locs ls hx hb hml hr hown hlk hnm hK hz hW hS hl
    exact lv_ior hx hb hdg (hP _ _ _ _ _ hs p e s m args below meth c H locs ls hx hb hml hr hown hlk hnm hK hz hW hS hl)
  · exact hs.elim
theorem sn_ixor {X : mh_X} {pc : Nat} {P : mh_PR} (hdg : decode X.2.2.1 pc = .ok (.ixor, 1)) (hP : mh_S X (pc + 1) P) : mh_S X pc (s_bin (fun x y => x ^^^ y) P) := by
  obtain ⟨E, y, cc, nL, ret, d, mc, ms, Post⟩ := X
  intro lv st h k n hs
  unfold s_bin at hs
  split at hs
  · intro p e s m args below meth c H locs ls hx hb hml hr hown hlk hnm hK hz hW hS hl
    exact lv_ixor hx hb hdg (hP _ _ _ _ _ hs p e s m args below meth c H locs ls hx hb hml hr hown hlk hnm hK hz hW hS hl)
  · exact hs.elim
theorem sn_ishl {X : mh_X} {pc : Nat} {P : mh_PR} (hdg : decode X.2.2.1 pc = .ok (.ishl, 1)) (hP : mh_S X (pc + 1) P) : mh_S X pc (s_bin mh_shl P) := by
  obtain ⟨E, y, cc, nL, ret, d, mc, ms, Post⟩ := X
  intro lv st h k n hs
  unfold s_bin at hs
  split at hs
  · intro p e s m args below meth c H locs ls hx hb hml hr hown hlk hnm hK hz hW hS hl
    exact lv_ishl hx hb hdg (hP _ _ _ _ _ hs p e s m args below meth c H locs ls hx hb hml hr hown hlk hnm hK hz hW hS hl)
  · exact hs.elim
theorem sn_ishr {X : mh_X} {pc : Nat} {P : mh_PR} (hdg : decode X.2.2.1 pc = .ok (.ishr, 1)) (hP : mh_S X (pc + 1) P) : mh_S X pc (s_bin mh_shr P) := by
  obtain ⟨E, y, cc, nL, ret, d, mc, ms, Post⟩ := X
  intro lv st h k n hs
  unfold s_bin at hs
  split at hs
  · intro p e s m args below meth c H locs ls hx hb hml hr hown hlk hnm hK hz hW hS hl
    exact lv_ishr hx hb hdg (hP _ _ _ _ _ hs p e s m args below meth c H locs ls hx hb hml hr hown hlk hnm hK hz hW hS hl)
  · exact hs.elim
theorem sn_iushr {X : mh_X} {pc : Nat} {P : mh_PR} (hdg : decode X.2.2.1 pc = .ok (.iushr, 1)) (hP : mh_S X (pc + 1) P) : mh_S X pc (s_bin mh_ush P) := by
  obtain ⟨E, y, cc, nL, ret, d, mc, ms, Post⟩ := X
  intro lv st h k n hs
  unfold s_bin at hs
  split at hs
  · intro p e s m args below meth c H locs ls hx hb hml hr hown hlk hnm hK hz hW hS hl
    exact lv_iushr hx hb hdg rfl (hP _ _ _ _ _ hs p e s m args below meth c H locs ls hx hb hml hr hown hlk hnm hK hz hW hS hl)
  · exact hs.elim
theorem sn_idiv {X : mh_X} {pc : Nat} {P : mh_PR} (hdg : decode X.2.2.1 pc = .ok (.idiv, 1)) (hP : mh_S X (pc + 1) P) : mh_S X pc (s_div (fun x y => x / y) P) := by
  obtain ⟨E, y, cc, nL, ret, d, mc, ms, Post⟩ := X
  intro lv st h k n hs
  unfold s_div at hs
  split at hs
  · intro p e s m args below meth c H locs ls hx hb hml hr hown hlk hnm hK hz hW hS hl
    exact lv_idiv hx hb hdg hs.1 (hP _ _ _ _ _ hs.2 p e s m args below meth c H locs ls hx hb hml hr hown hlk hnm hK hz hW hS hl)
  · exact hs.elim
theorem sn_irem {X : mh_X} {pc : Nat} {P : mh_PR} (hdg : decode X.2.2.1 pc = .ok (.irem, 1)) (hP : mh_S X (pc + 1) P) : mh_S X pc (s_div mh_rem P) := by
  obtain ⟨E, y, cc, nL, ret, d, mc, ms, Post⟩ := X
  intro lv st h k n hs
  unfold s_div at hs
  split at hs
  · intro p e s m args below meth c H locs ls hx hb hml hr hown hlk hnm hK hz hW hS hl
    exact lv_irem hx hb hdg hs.1 (hP _ _ _ _ _ hs.2 p e s m args below meth c H locs ls hx hb hml hr hown hlk hnm hK hz hW hS hl)
  · exact hs.elim
theorem sn_ineg {X : mh_X} {pc : Nat} {P : mh_PR} (hdg : decode X.2.2.1 pc = .ok (.ineg, 1)) (hP : mh_S X (pc + 1) P) : mh_S X pc (s_un (fun x => -x) P) := by
  obtain ⟨E, y, cc, nL, ret, d, mc, ms, Post⟩ := X
  intro lv st h k n hs
  unfold s_un at hs
  split at hs
  · intro p e s m args below meth c H locs ls hx hb hml hr hown hlk hnm hK hz hW hS hl
    exact lv_ineg hx hb hdg (hP _ _ _ _ _ hs p e s m args below meth c H locs ls hx hb hml hr hown hlk hnm hK hz hW hS hl)
  · exact hs.elim
theorem sn_i2s {X : mh_X} {pc : Nat} {P : mh_PR} (hdg : decode X.2.2.1 pc = .ok (.i2s, 1)) (hP : mh_S X (pc + 1) P) : mh_S X pc (s_un (fun x => x.toInt16.toInt32) P) := by
  obtain ⟨E, y, cc, nL, ret, d, mc, ms, Post⟩ := X
  intro lv st h k n hs
  unfold s_un at hs
  split at hs
  · intro p e s m args below meth c H locs ls hx hb hml hr hown hlk hnm hK hz hW hS hl
    exact lv_i2s hx hb hdg rfl (hP _ _ _ _ _ hs p e s m args below meth c H locs ls hx hb hml hr hown hlk hnm hK hz hW hS hl)
  · exact hs.elim
theorem sn_i2b {X : mh_X} {pc : Nat} {P : mh_PR} (hdg : decode X.2.2.1 pc = .ok (.i2b, 1)) (hP : mh_S X (pc + 1) P) : mh_S X pc (s_un (fun x => x.toInt8.toInt32) P) := by
  obtain ⟨E, y, cc, nL, ret, d, mc, ms, Post⟩ := X
  intro lv st h k n hs
  unfold s_un at hs
  split at hs
  · intro p e s m args below meth c H locs ls hx hb hml hr hown hlk hnm hK hz hW hS hl
    exact lv_i2b hx hb hdg rfl (hP _ _ _ _ _ hs p e s m args below meth c H locs ls hx hb hml hr hown hlk hnm hK hz hW hS hl)
  · exact hs.elim
theorem sn_i2c {X : mh_X} {pc : Nat} {P : mh_PR} (hdg : decode X.2.2.1 pc = .ok (.i2c, 1)) (hP : mh_S X (pc + 1) P) : mh_S X pc (s_un (fun x => (x.toUInt32 % 65536).toInt32) P) := by
  obtain ⟨E, y, cc, nL, ret, d, mc, ms, Post⟩ := X
  intro lv st h k n hs
  unfold s_un at hs
  split at hs
  · intro p e s m args below meth c H locs ls hx hb hml hr hown hlk hnm hK hz hW hS hl
    exact lv_i2c hx hb hdg rfl (hP _ _ _ _ _ hs p e s m args below meth c H locs ls hx hb hml hr hown hlk hnm hK hz hW hS hl)
  · exact hs.elim
def s_i2l (P : mh_PR) : mh_PR := fun lv st h k n => match st with
  | .int x :: r => P lv (.long x.toInt64 :: r) h k n
  | _ => False
def s_l2i (P : mh_PR) : mh_PR := fun lv st h k n => match st with
  | .long x :: r => P lv (.int x.toInt32 :: r) h k n
  | _ => False
def s_binL (f : Int64 → Int64 → Int64) (P : mh_PR) : mh_PR := fun lv st h k n => match st with
  | .long y :: .long x :: r => P lv (.long (f x y) :: r) h k n
  | _ => False
def s_lneg (P : mh_PR) : mh_PR := fun lv st h k n => match st with
  | .long x :: r => P lv (.long (-x) :: r) h k n
  | _ => False
def s_lcmp (P : mh_PR) : mh_PR := fun lv st h k n => match st with
  | .long y :: .long x :: r => P lv (.int (lg_cmp x y) :: r) h k n
  | _ => False
def s_dup (P : mh_PR) : mh_PR := fun lv st h k n => match st with
  | v :: r => v.category = 1 ∧ P lv (v :: v :: r) h k n
  | _ => False
def s_dup2 (P : mh_PR) : mh_PR := fun lv st h k n => match st with
  | v :: u :: r => v.category = 1 ∧ u.category = 1 ∧ P lv (v :: u :: v :: u :: r) h k n
  | _ => False
def s_pop (P : mh_PR) : mh_PR := fun lv st h k n => match st with
  | v :: r => v.category = 1 ∧ P lv r h k n
  | _ => False
theorem sn_i2l {X : mh_X} {pc : Nat} {P : mh_PR} (hdg : decode X.2.2.1 pc = .ok (.i2l, 1)) (hP : mh_S X (pc + 1) P) : mh_S X pc (s_i2l  P) := by
  obtain ⟨E, y, cc, nL, ret, d, mc, ms, Post⟩ := X
  intro lv st h k n hs
  unfold s_i2l at hs
  split at hs
  · intro p e s m args below meth c H locs ls hx hb hml hr hown hlk hnm hK hz hW hS hl
    exact lv_i2l hx hb hdg rfl (hP _ _ _ _ _ hs p e s m args below meth c H locs ls hx hb hml hr hown hlk hnm hK hz hW hS hl)
  · exact hs.elim
theorem sn_l2i {X : mh_X} {pc : Nat} {P : mh_PR} (hdg : decode X.2.2.1 pc = .ok (.l2i, 1)) (hP : mh_S X (pc + 1) P) : mh_S X pc (s_l2i  P) := by
  obtain ⟨E, y, cc, nL, ret, d, mc, ms, Post⟩ := X
  intro lv st h k n hs
  unfold s_l2i at hs
  split at hs
  · intro p e s m args below meth c H locs ls hx hb hml hr hown hlk hnm hK hz hW hS hl
    exact lv_l2i hx hb hdg rfl (hP _ _ _ _ _ hs p e s m args below meth c H locs ls hx hb hml hr hown hlk hnm hK hz hW hS hl)
  · exact hs.elim
theorem sn_ladd {X : mh_X} {pc : Nat} {P : mh_PR} (hdg : decode X.2.2.1 pc = .ok (.ladd, 1)) (hP : mh_S X (pc + 1) P) : mh_S X pc (s_binL (fun x y => x + y) P) := by
  obtain ⟨E, y, cc, nL, ret, d, mc, ms, Post⟩ := X
  intro lv st h k n hs
  unfold s_binL at hs
  split at hs
  · intro p e s m args below meth c H locs ls hx hb hml hr hown hlk hnm hK hz hW hS hl
    exact lv_ladd hx hb hdg (hP _ _ _ _ _ hs p e s m args below meth c H locs ls hx hb hml hr hown hlk hnm hK hz hW hS hl)
  · exact hs.elim
theorem sn_lsub {X : mh_X} {pc : Nat} {P : mh_PR} (hdg : decode X.2.2.1 pc = .ok (.lsub, 1)) (hP : mh_S X (pc + 1) P) : mh_S X pc (s_binL (fun x y => x - y) P) := by
  obtain ⟨E, y, cc, nL, ret, d, mc, ms, Post⟩ := X
  intro lv st h k n hs
  unfold s_binL at hs
  split at hs
  · intro p e s m args below meth c H locs ls hx hb hml hr hown hlk hnm hK hz hW hS hl
    exact lv_lsub hx hb hdg (hP _ _ _ _ _ hs p e s m args below meth c H locs ls hx hb hml hr hown hlk hnm hK hz hW hS hl)
  · exact hs.elim
theorem sn_lneg {X : mh_X} {pc : Nat} {P : mh_PR} (hdg : decode X.2.2.1 pc = .ok (.lneg, 1)) (hP : mh_S X (pc + 1) P) : mh_S X pc (s_lneg  P) := by
  obtain ⟨E, y, cc, nL, ret, d, mc, ms, Post⟩ := X
  intro lv st h k n hs
  unfold s_lneg at hs
  split at hs
  · intro p e s m args below meth c H locs ls hx hb hml hr hown hlk hnm hK hz hW hS hl
    exact lv_lneg hx hb hdg (hP _ _ _ _ _ hs p e s m args below meth c H locs ls hx hb hml hr hown hlk hnm hK hz hW hS hl)
  · exact hs.elim
theorem sn_lcmp {X : mh_X} {pc : Nat} {P : mh_PR} (hdg : decode X.2.2.1 pc = .ok (.lcmp, 1)) (hP : mh_S X (pc + 1) P) : mh_S X pc (s_lcmp  P) := by
  obtain ⟨E, y, cc, nL, ret, d, mc, ms, Post⟩ := X
  intro lv st h k n hs
  unfold s_lcmp at hs
  split at hs
  · intro p e s m args below meth c H locs ls hx hb hml hr hown hlk hnm hK hz hW hS hl
    exact W.lcmp hx hb hdg (hP _ _ _ _ _ hs p e s m args below meth c H locs ls hx hb hml hr hown hlk hnm hK hz hW hS hl)
  · exact hs.elim
theorem sn_dup {X : mh_X} {pc : Nat} {P : mh_PR} (hdg : decode X.2.2.1 pc = .ok (.dup, 1)) (hP : mh_S X (pc + 1) P) : mh_S X pc (s_dup  P) := by
  obtain ⟨E, y, cc, nL, ret, d, mc, ms, Post⟩ := X
  intro lv st h k n hs
  unfold s_dup at hs
  split at hs
  · intro p e s m args below meth c H locs ls hx hb hml hr hown hlk hnm hK hz hW hS hl
    exact lv_dup hx hb hdg hs.1 (hP _ _ _ _ _ hs.2 p e s m args below meth c H locs ls hx hb hml hr hown hlk hnm hK hz hW hS hl)
  · exact hs.elim
theorem sn_dup2 {X : mh_X} {pc : Nat} {P : mh_PR} (hdg : decode X.2.2.1 pc = .ok (.dup2, 1)) (hP : mh_S X (pc + 1) P) : mh_S X pc (s_dup2  P) := by
  obtain ⟨E, y, cc, nL, ret, d, mc, ms, Post⟩ := X
  intro lv st h k n hs
  unfold s_dup2 at hs
  split at hs
  · intro p e s m args below meth c H locs ls hx hb hml hr hown hlk hnm hK hz hW hS hl
    exact lv_dup2_11 hx hb hdg hs.1 hs.2.1 (hP _ _ _ _ _ hs.2.2 p e s m args below meth c H locs ls hx hb hml hr hown hlk hnm hK hz hW hS hl)
  · exact hs.elim
theorem sn_pop {X : mh_X} {pc : Nat} {P : mh_PR} (hdg : decode X.2.2.1 pc = .ok (.pop, 1)) (hP : mh_S X (pc + 1) P) : mh_S X pc (s_pop  P) := by
  obtain ⟨E, y, cc, nL, ret, d, mc, ms, Post⟩ := X
  intro lv st h k n hs
  unfold s_pop at hs
  split at hs
  · intro p e s m args below meth c H locs ls hx hb hml hr hown hlk hnm hK hz hW hS hl
    exact lv_pop hx hb hdg hs.1 (hP _ _ _ _ _ hs.2 p e s m args below meth c H locs ls hx hb hml hr hown hlk hnm hK hz hW hS hl)
  · exact hs.elim
def s_if1 (q : Int32 → Prop) (Pt Pf : mh_PR) : mh_PR := fun lv st h k n => match st with
  | .int x :: r => (q x → Pt lv r h k n) ∧ (¬ q x → Pf lv r h k n)
  | _ => False
def s_if2 (q : Int32 → Int32 → Prop) (Pt Pf : mh_PR) : mh_PR := fun lv st h k n => match st with
  | .int y :: .int x :: r => (q x y → Pt lv r h k n) ∧ (¬ q x y → Pf lv r h k n)
  | _ => False
theorem sn_if_eq {X : mh_X} {pc tgt : Nat} {P P2 : mh_PR} {off : Int} (hdg : decode X.2.2.1 pc = .ok (.ifCond .eq off, 3)) (ht : (pc : Int) + off = (tgt : Int)) (hP : mh_S X tgt P) (hP2 : mh_S X (pc + 3) P2) : mh_S X pc (s_if1 (fun x => x = 0) P P2) := by
  obtain ⟨E, y, cc, nL, ret, d, mc, ms, Post⟩ := X
  intro lv st h k n hs
  unfold s_if1 at hs
  split at hs
  · intro p e s m args below meth c H locs ls hx hb hml hr hown hlk hnm hK hz hW hS hl
    exact lv_if_eq hx hb hdg ht (fun q => hP _ _ _ _ _ (hs.1 q) p e s m args below meth c H locs ls hx hb hml hr hown hlk hnm hK hz hW hS hl) (fun q => hP2 _ _ _ _ _ (hs.2 q) p e s m args below meth c H locs ls hx hb hml hr hown hlk hnm hK hz hW hS hl)
  · exact hs.elim
theorem sn_if_ne {X : mh_X} {pc tgt : Nat} {P P2 : mh_PR} {off : Int} (hdg : decode X.2.2.1 pc = .ok (.ifCond .ne off, 3)) (ht : (pc : Int) + off = (tgt : Int)) (hP : mh_S X tgt P) (hP2 : mh_S X (pc + 3) P2) : mh_S X pc (s_if1 (fun x => ¬ x = 0) P P2) := by
  obtain ⟨E, y, cc, nL, ret, d, mc, ms, Post⟩ := X
  intro lv st h k n hs
  unfold s_if1 at hs
  split at hs
  · intro p e s m args below meth c H locs ls hx hb hml hr hown hlk hnm hK hz hW hS hl
    exact lv_if_ne hx hb hdg ht (fun q => hP _ _ _ _ _ (hs.1 q) p e s m args below meth c H locs ls hx hb hml hr hown hlk hnm hK hz hW hS hl) (fun q => hP2 _ _ _ _ _ (hs.2 (fun z => z q)) p e s m args below meth c H locs ls hx hb hml hr hown hlk hnm hK hz hW hS hl)
  · exact hs.elim
theorem sn_if_lt {X : mh_X} {pc tgt : Nat} {P P2 : mh_PR} {off : Int} (hdg : decode X.2.2.1 pc = .ok (.ifCond .lt off, 3)) (ht : (pc : Int) + off = (tgt : Int)) (hP : mh_S X tgt P) (hP2 : mh_S X (pc + 3) P2) : mh_S X pc (s_if1 (fun x => x < 0) P P2) := by
  obtain ⟨E, y, cc, nL, ret, d, mc, ms, Post⟩ := X
  intro lv st h k n hs
  unfold s_if1 at hs
  split at hs
  · intro p e s m args below meth c H locs ls hx hb hml hr hown hlk hnm hK hz hW hS hl
    exact lv_if_lt hx hb hdg ht (fun q => hP _ _ _ _ _ (hs.1 q) p e s m args below meth c H locs ls hx hb hml hr hown hlk hnm hK hz hW hS hl) (fun q => hP2 _ _ _ _ _ (hs.2 q) p e s m args below meth c H locs ls hx hb hml hr hown hlk hnm hK hz hW hS hl)
  · exact hs.elim
theorem sn_if_ge {X : mh_X} {pc tgt : Nat} {P P2 : mh_PR} {off : Int} (hdg : decode X.2.2.1 pc = .ok (.ifCond .ge off, 3)) (ht : (pc : Int) + off = (tgt : Int)) (hP : mh_S X tgt P) (hP2 : mh_S X (pc + 3) P2) : mh_S X pc (s_if1 (fun x => 0 ≤ x) P P2) := by
  obtain ⟨E, y, cc, nL, ret, d, mc, ms, Post⟩ := X
  intro lv st h k n hs
  unfold s_if1 at hs
  split at hs
  · intro p e s m args below meth c H locs ls hx hb hml hr hown hlk hnm hK hz hW hS hl
    exact lv_if_ge hx hb hdg ht (fun q => hP _ _ _ _ _ (hs.1 q) p e s m args below meth c H locs ls hx hb hml hr hown hlk hnm hK hz hW hS hl) (fun q => hP2 _ _ _ _ _ (hs.2 q) p e s m args below meth c H locs ls hx hb hml hr hown hlk hnm hK hz hW hS hl)
  · exact hs.elim
theorem sn_if_gt {X : mh_X} {pc tgt : Nat} {P P2 : mh_PR} {off : Int} (hdg : decode X.2.2.1 pc = .ok (.ifCond .gt off, 3)) (ht : (pc : Int) + off = (tgt : Int)) (hP : mh_S X tgt P) (hP2 : mh_S X (pc + 3) P2) : mh_S X pc (s_if1 (fun x => 0 < x) P P2) := by
  obtain ⟨E, y, cc, nL, ret, d, mc, ms, Post⟩ := X
  intro lv st h k n hs
  unfold s_if1 at hs
  split at hs
  · intro p e s m args below meth c H locs ls hx hb hml hr hown hlk hnm hK hz hW hS hl
    exact lv_if_gt hx hb hdg ht (fun q => hP _ _ _ _ _ (hs.1 q) p e s m args below meth c H locs ls hx hb hml hr hown hlk hnm hK hz hW hS hl) (fun q => hP2 _ _ _ _ _ (hs.2 q) p e s m args below meth c H locs ls hx hb hml hr hown hlk hnm hK hz hW hS hl)
  · exact hs.elim
theorem sn_if_le {X : mh_X} {pc tgt : Nat} {P P2 : mh_PR} {off : Int} (hdg : decode X.2.2.1 pc = .ok (.ifCond .le off, 3)) (ht : (pc : Int) + off = (tgt : Int)) (hP : mh_S X tgt P) (hP2 : mh_S X (pc + 3) P2) : mh_S X pc (s_if1 (fun x => x ≤ 0) P P2) := by
  obtain ⟨E, y, cc, nL, ret, d, mc, ms, Post⟩ := X
  intro lv st h k n hs
  unfold s_if1 at hs
  split at hs
  · intro p e s m args below meth c H locs ls hx hb hml hr hown hlk hnm hK hz hW hS hl
    exact lv_if_le hx hb hdg ht (fun q => hP _ _ _ _ _ (hs.1 q) p e s m args below meth c H locs ls hx hb hml hr hown hlk hnm hK hz hW hS hl) (fun q => hP2 _ _ _ _ _ (hs.2 q) p e s m args below meth c H locs ls hx hb hml hr hown hlk hnm hK hz hW hS hl)
  · exact hs.elim
theorem sn_icmp_eq {X : mh_X} {pc tgt : Nat} {P P2 : mh_PR} {off : Int} (hdg : decode X.2.2.1 pc = .ok (.if_icmp .eq off, 3)) (ht : (pc : Int) + off = (tgt : Int)) (hP : mh_S X tgt P) (hP2 : mh_S X (pc + 3) P2) : mh_S X pc (s_if2 (fun x y => x = y) P P2) := by
  obtain ⟨E, y, cc, nL, ret, d, mc, ms, Post⟩ := X
  intro lv st h k n hs
  unfold s_if2 at hs
  split at hs
  · intro p e s m args below meth c H locs ls hx hb hml hr hown hlk hnm hK hz hW hS hl
    exact lv_icmp_eq hx hb hdg ht (fun q => hP _ _ _ _ _ (hs.1 q) p e s m args below meth c H locs ls hx hb hml hr hown hlk hnm hK hz hW hS hl) (fun q => hP2 _ _ _ _ _ (hs.2 q) p e s m args below meth c H locs ls hx hb hml hr hown hlk hnm hK hz hW hS hl)
  · exact hs.elim
theorem sn_icmp_ne {X : mh_X} {pc tgt : Nat} {P P2 : mh_PR} {off : Int} (hdg : decode X.2.2.1 pc = .ok (.if_icmp .ne off, 3)) (ht : (pc : Int) + off = (tgt : Int)) (hP : mh_S X tgt P) (hP2 : mh_S X (pc + 3) P2) : mh_S X pc (s_if2 (fun x y => ¬ x = y) P P2) := by
  obtain ⟨E, y, cc, nL, ret, d, mc, ms, Post⟩ := X
  intro lv st h k n hs
  unfold s_if2 at hs
  split at hs
  · intro p e s m args below meth c H locs ls hx hb hml hr hown hlk hnm hK hz hW hS hl
    exact lv_icmp_ne hx hb hdg ht (fun q => hP _ _ _ _ _ (hs.1 q) p e s m args below meth c H locs ls hx hb hml hr hown hlk hnm hK hz hW hS hl) (fun q => hP2 _ _ _ _ _ (hs.2 (fun z => z q)) p e s m args below meth c H locs ls hx hb hml hr hown hlk hnm hK hz hW hS hl)
  · exact hs.elim
theorem sn_icmp_lt {X : mh_X} {pc tgt : Nat} {P P2 : mh_PR} {off : Int} (hdg : decode X.2.2.1 pc = .ok (.if_icmp .lt off, 3)) (ht : (pc : Int) + off = (tgt : Int)) (hP : mh_S X tgt P) (hP2 : mh_S X (pc + 3) P2) : mh_S X pc (s_if2 (fun x y => x < y) P P2) := by
  obtain ⟨E, y, cc, nL, ret, d, mc, ms, Post⟩ := X
  intro lv st h k n hs
  unfold s_if2 at hs
  split at hs
  · intro p e s m args below meth c H locs ls hx hb hml hr hown hlk hnm hK hz hW hS hl
    exact lv_icmp_lt hx hb hdg ht (fun q => hP _ _ _ _ _ (hs.1 q) p e s m args below meth c H locs ls hx hb hml hr hown hlk hnm hK hz hW hS hl) (fun q => hP2 _ _ _ _ _ (hs.2 q) p e s m args below meth c H locs ls hx hb hml hr hown hlk hnm hK hz hW hS hl)
  · exact hs.elim
theorem sn_icmp_ge {X : mh_X} {pc tgt : Nat} {P P2 : mh_PR} {off : Int} (hdg : decode X.2.2.1 pc = .ok (.if_icmp .ge off, 3)) (ht : (pc : Int) + off = (tgt : Int)) (hP : mh_S X tgt P) (hP2 : mh_S X (pc + 3) P2) : mh_S X pc (s_if2 (fun x y => y ≤ x) P P2) := by
  obtain ⟨E, y, cc, nL, ret, d, mc, ms, Post⟩ := X
  intro lv st h k n hs
  unfold s_if2 at hs
  split at hs
  · intro p e s m args below meth c H locs ls hx hb hml hr hown hlk hnm hK hz hW hS hl
    exact lv_icmp_ge hx hb hdg ht (fun q => hP _ _ _ _ _ (hs.1 q) p e s m args below meth c H locs ls hx hb hml hr hown hlk hnm hK hz hW hS hl) (fun q => hP2 _ _ _ _ _ (hs.2 q) p e s m args below meth c H locs ls hx hb hml hr hown hlk hnm hK hz hW hS hl)
  · exact hs.elim
theorem sn_icmp_gt {X : mh_X} {pc tgt : Nat} {P P2 : mh_PR} {off : Int} (hdg : decode X.2.2.1 pc = .ok (.if_icmp .gt off, 3)) (ht : (pc : Int) + off = (tgt : Int)) (hP : mh_S X tgt P) (hP2 : mh_S X (pc + 3) P2) : mh_S X pc (s_if2 (fun x y => y < x) P P2) := by
  obtain ⟨E, y, cc, nL, ret, d, mc, ms, Post⟩ := X
  intro lv st h k n hs
  unfold s_if2 at hs
  split at hs
  · intro p e s m args below meth c H locs ls hx hb hml hr hown hlk hnm hK hz hW hS hl
    exact lv_icmp_gt hx hb hdg ht (fun q => hP _ _ _ _ _ (hs.1 q) p e s m args below meth c H locs ls hx hb hml hr hown hlk hnm hK hz hW hS hl) (fun q => hP2 _ _ _ _ _ (hs.2 q) p e s m args below meth c H locs ls hx hb hml hr hown hlk hnm hK hz hW hS hl)
  · exact hs.elim
theorem sn_icmp_le {X : mh_X} {pc tgt : Nat} {P P2 : mh_PR} {off : Int} (hdg : decode X.2.2.1 pc = .ok (.if_icmp .le off, 3)) (ht : (pc : Int) + off = (tgt : Int)) (hP : mh_S X tgt P) (hP2 : mh_S X (pc + 3) P2) : mh_S X pc (s_if2 (fun x y => x ≤ y) P P2) := by
  obtain ⟨E, y, cc, nL, ret, d, mc, ms, Post⟩ := X
  intro lv st h k n hs
  unfold s_if2 at hs
  split at hs
  · intro p e s m args below meth c H locs ls hx hb hml hr hown hlk hnm hK hz hW hS hl
    exact lv_icmp_le hx hb hdg ht (fun q => hP _ _ _ _ _ (hs.1 q) p e s m args below meth c H locs ls hx hb hml hr hown hlk hnm hK hz hW hS hl) (fun q => hP2 _ _ _ _ _ (hs.2 q) p e s m args below meth c H locs ls hx hb hml hr hown hlk hnm hK hz hW hS hl)
  · exact hs.elim
def s_ifn (Pn Pr : mh_PR) : mh_PR := fun lv st h k n => match st with
  | .null :: r => Pn lv r h k n
  | .ref _ :: r => Pr lv r h k n
  | _ => False
theorem sn_ifnonnull {X : mh_X} {pc tgt : Nat} {P P2 : mh_PR} {off : Int} (hdg : decode X.2.2.1 pc = .ok (.ifnonnull off, 3)) (ht : (pc : Int) + off = (tgt : Int)) (hP : mh_S X tgt P) (hP2 : mh_S X (pc + 3) P2) : mh_S X pc (s_ifn P2 P) := by
  obtain ⟨E, y, cc, nL, ret, d, mc, ms, Post⟩ := X
  intro lv st h k n hs
  unfold s_ifn at hs
  split at hs
  · intro p e s m args below meth c H locs ls hx hb hml hr hown hlk hnm hK hz hW hS hl
    exact lv_ifnonnullN hx hb hdg (hP2 _ _ _ _ _ hs p e s m args below meth c H locs ls hx hb hml hr hown hlk hnm hK hz hW hS hl)
  · intro p e s m args below meth c H locs ls hx hb hml hr hown hlk hnm hK hz hW hS hl
    exact lv_ifnonnull hx hb hdg ht (hP _ _ _ _ _ hs p e s m args below meth c H locs ls hx hb hml hr hown hlk hnm hK hz hW hS hl)
  · exact hs.elim
/-! switches: a chain of tests -/
def sw_go (x : Int32) : List (Int32 × mh_PR) → mh_PR → mh_PR
  | [], Pd => Pd
  | q :: t, Pd => fun lv st h k n => (x = q.1 → q.2 lv st h k n) ∧ (¬ x = q.1 → sw_go x t Pd lv st h k n)
def s_sw (cs : List (Int32 × mh_PR)) (Pd : mh_PR) : mh_PR := fun lv st h k n => match st with
  | .int x :: r => sw_go x cs Pd lv r h k n
  | _ => False
theorem sw_cases {x : Int32} {Pd : mh_PR} {lv : List (Option Value)} {st : List Value} {h : mh_H} {k n : Nat} : ∀ (cs : List (Int32 × mh_PR)), sw_go x cs Pd lv st h k n → (∃ q, q ∈ cs ∧ x = q.1 ∧ q.2 lv st h k n) ∨ ((∀ q ∈ cs, ¬ x = q.1) ∧ Pd lv st h k n)
  | [], hs => Or.inr ⟨fun _ hq => (List.not_mem_nil hq).elim, hs⟩
  | q :: t, hs => by
    by_cases e : x = q.1
    · exact Or.inl ⟨q, List.mem_cons_self, e, hs.1 e⟩
    · rcases sw_cases t (hs.2 e) with ⟨r, h1, h2⟩ | ⟨h1, h2⟩
      · exact Or.inl ⟨r, List.mem_cons_of_mem _ h1, h2⟩
      · exact Or.inr ⟨fun r hr => (List.mem_cons.mp hr).elim (fun z => by rw [z]; exact e) (h1 r), h2⟩
def sw_T (X : mh_X) : List (Int32 × Int × Nat) → List (Int32 × mh_PR) → Prop
  | [], [] => True
  | t :: ts, q :: qs => t.1 = q.1 ∧ mh_S X t.2.2 q.2 ∧ sw_T X ts qs
  | _, _ => False
theorem sw_nil {X : mh_X} : sw_T X [] [] := trivial
theorem sw_cons {X : mh_X} {v : Int32} {off : Int} {tgt : Nat} {P : mh_PR} {ts : List (Int32 × Int × Nat)} {cs : List (Int32 × mh_PR)} (h : mh_S X tgt P) (h2 : sw_T X ts cs) : sw_T X ((v, off, tgt) :: ts) ((v, P) :: cs) := ⟨rfl, h, h2⟩
theorem sw_T.at {X : mh_X} : ∀ {ts : List (Int32 × Int × Nat)} {cs : List (Int32 × mh_PR)}, sw_T X ts cs → ∀ q ∈ cs, ∃ t ∈ ts, t.1 = q.1 ∧ mh_S X t.2.2 q.2
  | [], [], _, q, hq => (List.not_mem_nil hq).elim
  | [], _ :: _, h, q, hq => h.elim
  | _ :: _, [], h, q, hq => (List.not_mem_nil hq).elim
  | t :: ts, r :: rs, h, q, hq => by
    rcases List.mem_cons.mp hq with rfl | h1
    · exact ⟨t, List.mem_cons_self, h.1, h.2.1⟩
    · obtain ⟨u, h2, h3⟩ := h.2.2.at q h1
      exact ⟨u, List.mem_cons_of_mem _ h2, h3⟩
theorem sw_T.back {X : mh_X} : ∀ {ts : List (Int32 × Int × Nat)} {cs : List (Int32 × mh_PR)}, sw_T X ts cs → ∀ t ∈ ts, ∃ q ∈ cs, t.1 = q.1
  | [], [], _, t, ht => (List.not_mem_nil ht).elim
  | [], _ :: _, h, q, hq => h.elim
  | _ :: _, [], h, q, hq => h.elim
  | t :: ts, r :: rs, h, q, hq => by
    rcases List.mem_cons.mp hq with rfl | h1
    · exact ⟨r, List.mem_cons_self, h.1⟩
    · obtain ⟨u, h2, h3⟩ := h.2.2.back q h1
      exact ⟨u, List.mem_cons_of_mem _ h2, h3⟩
def sw_tab (lo hi : Int) (offs : Array Int) (x : Int) : Option Int := if x < lo ∨ hi < x then none else offs[(x - lo).toNat]?
theorem sn_table {X : mh_X} {pc tgt len : Nat} {Pd : mh_PR} {dflt lo hi : Int} {offs : Array Int} {cs : List (Int32 × mh_PR)} (hdg : decode X.2.2.1 pc = .ok (.tableswitch dflt lo hi offs, len)) {ts : List (Int32 × Int × Nat)} (hc : (ts.map fun q => q.1.toInt) = (List.range (hi - lo + 1).toNat).map (fun i : Nat => lo + (i : Int))) (hk : (ts.all fun t => decide (sw_tab lo hi offs t.1.toInt = some t.2.1) && decide ((pc : Int) + t.2.1 = (t.2.2 : Int))) = true) (hT : sw_T X ts cs) (ht : (pc : Int) + dflt = (tgt : Int)) (hP : mh_S X tgt Pd) : mh_S X pc (s_sw cs Pd) := by
  obtain ⟨E, y, cc, nL, ret, d, mc, ms, Post⟩ := X
  intro lv st h k n hs
  unfold s_sw at hs
  split at hs
  · rename_i x r
    intro p e s m args below meth c H locs ls hx hb hml hr hown hlk hnm hK hz hW hS hl
    rcases sw_cases cs hs with ⟨q, hq, e1, h1⟩ | ⟨h1, h2⟩
    · obtain ⟨t, ht1, ht2, f3⟩ := hT.at q hq
      have hkt := List.all_eq_true.mp hk t ht1
      simp only [Bool.and_eq_true, decide_eq_true_eq] at hkt
      obtain ⟨f1, f2⟩ := hkt
      rw [ht2] at f1
      unfold sw_tab at f1
      split at f1
      · cases f1
      · rename_i hno
        subst e1
        exact lv_tableIn hx hb hdg (fun z => hno (Or.inl z)) (fun z => hno (Or.inr z)) f1 f2 (f3 _ _ _ _ _ h1 p e s m args below meth c H locs ls hx hb hml hr hown hlk hnm hK hz hW hS hl)
    · refine lv_tableOut hx hb hdg ?_ ht (hP _ _ _ _ _ h2 p e s m args below meth c H locs ls hx hb hml hr hown hlk hnm hK hz hW hS hl)
      rcases Int.lt_or_le x.toInt lo with q | q
      · exact Or.inl q
      rcases Int.lt_or_le hi x.toInt with q2 | q2
      · exact Or.inr q2
      exfalso
      have hm : x.toInt ∈ (List.range (hi - lo + 1).toNat).map (fun i : Nat => lo + (i : Int)) := List.mem_map.mpr ⟨(x.toInt - lo).toNat, List.mem_range.mpr (by omega), by omega⟩
      rw [← hc] at hm
      obtain ⟨w, hw, e⟩ := List.mem_map.mp hm
      obtain ⟨q, hq, e2⟩ := hT.back w hw
      exact h1 q hq ((Int32.toInt_inj.mp e.symm).trans e2)
  · exact hs.elim
def sw_lk (dflt : Int) (ps : List (Int × Int)) (x : Int) : Option Int := some (Op.lookupswitch.offset ps dflt x)
theorem sw_off {dflt x : Int} : ∀ (ps : List (Int × Int)), (∀ q ∈ ps, ¬ x = q.1) → Op.lookupswitch.offset ps dflt x = dflt
  | [], _ => by simp [Op.lookupswitch.offset]
  | q :: t, h => by
    obtain ⟨a, b⟩ := q
    rw [Op.lookupswitch.offset_cons, if_neg (by first | exact h (a, b) List.mem_cons_self | exact fun e => h (a, b) List.mem_cons_self e.symm)]
    exact sw_off t (fun q hq => h q (List.mem_cons_of_mem _ hq))
theorem sn_lookup {X : mh_X} {pc tgt len : Nat} {Pd : mh_PR} {dflt : Int} {ps : Array (Int × Int)} {cs : List (Int32 × mh_PR)} (hdg : decode X.2.2.1 pc = .ok (.lookupswitch dflt ps, len)) (hp : (ps.toList.zip (ps.toList.drop 1)).all (fun (a, next) => a.1 < next.1) = true) {ts : List (Int32 × Int × Nat)} (hc : (ts.map fun q => q.1.toInt) = ps.toList.map (fun q => q.1)) (hk : (ts.all fun t => decide (sw_lk dflt ps.toList t.1.toInt = some t.2.1) && decide ((pc : Int) + t.2.1 = (t.2.2 : Int))) = true) (hT : sw_T X ts cs) (ht : (pc : Int) + dflt = (tgt : Int)) (hP : mh_S X tgt Pd) : mh_S X pc (s_sw cs Pd) := by
  obtain ⟨E, y, cc, nL, ret, d, mc, ms, Post⟩ := X
  intro lv st h k n hs
  unfold s_sw at hs
  split at hs
  · rename_i x r
    intro p e s m args below meth c H locs ls hx hb hml hr hown hlk hnm hK hz hW hS hl
    rcases sw_cases cs hs with ⟨q, hq, e1, h1⟩ | ⟨h1, h2⟩
    · obtain ⟨t, ht1, ht2, f3⟩ := hT.at q hq
      have hkt := List.all_eq_true.mp hk t ht1
      simp only [Bool.and_eq_true, decide_eq_true_eq] at hkt
      obtain ⟨f1, f2⟩ := hkt
      rw [ht2] at f1
      subst e1
      exact lv_lookup hx hb hdg hp (Option.some.inj f1) f2 (f3 _ _ _ _ _ h1 p e s m args below meth c H locs ls hx hb hml hr hown hlk hnm hK hz hW hS hl)
    · refine lv_lookup hx hb hdg hp (sw_off _ (fun q hq e => ?_)) ht (hP _ _ _ _ _ h2 p e s m args below meth c H locs ls hx hb hml hr hown hlk hnm hK hz hW hS hl)
      have hm : x.toInt ∈ ps.toList.map (fun q => q.1) := List.mem_map.mpr ⟨q, hq, e.symm⟩
      rw [← hc] at hm
      obtain ⟨w, hw, e⟩ := List.mem_map.mp hm
      obtain ⟨q, hq, e2⟩ := hT.back w hw
      exact h1 q hq ((Int32.toInt_inj.mp e.symm).trans e2)
  · exact hs.elim
